/-! seek: the reference, walks -/
set_option maxRecDepth 10000 in
set_option maxHeartbeats 4000000 in
theorem u268 {d : Nat} {I : Nat → Nat → Int32} {D : Nat → Nat → UInt64} {R : Nat → Nat → Option Nat} {Q : j_Po} {i : Nat} {c : Nat} {x : UInt64} {β : Bd} {n : Nat} (hV : BV β) (hi : i < 24) (hc : c < 24) (h51 : I 260 51 = nI n) (hd : 100 ≤ d)
    (v1 : RSt β (j_u I 260 51 (nI (n + 1))) D)
    (v2 : RIn β (j_u I 260 51 (nI (n + 1))) D (env β))
    (v3 : i < 24)
    (v4 : c < 24)
    (v5 : Sm x)
    (v6 : 90 ≤ 90)
    (v7 : ∀ J1 : Nat → Nat → Int32, ∀ E2 : Nat → Nat → UInt64, (FRr (j_u I 260 51 (nI (n + 1))) D J1 E2) → (VQ (J1 380 c) (J1 388 c) (E2 372 c) (val β (fu (env β) i (0, kp (nI (bK β i)) x)) c)) → (Sm (E2 372 c)) → 0 ≤ 0)
    (v8 : ∀ J1 : Nat → Nat → Int32, ∀ E2 : Nat → Nat → UInt64, (FRr (j_u I 260 51 (nI (n + 1))) D J1 E2) → (VQ (J1 380 c) (J1 388 c) (E2 372 c) (val β (fu (env β) i (0, kp (nI (bK β i)) x)) c)) → (Sm (E2 372 c)) → ((J1 380 c) = 0) → ((J1 260 52) ||| 0) = 0 ∨ ((J1 260 52) ||| 0) = 1)
    (v9 : ∀ J1 : Nat → Nat → Int32, ∀ E2 : Nat → Nat → UInt64, (FRr (j_u I 260 51 (nI (n + 1))) D J1 E2) → (VQ (J1 380 c) (J1 388 c) (E2 372 c) (val β (fu (env β) i (0, kp (nI (bK β i)) x)) c)) → (Sm (E2 372 c)) → ((J1 380 c) = 0) → Q (some (.double (E2 372 c))) w1 ((j_u J1 260 52 ((J1 260 52) ||| 0)), E2, RR R))
    (v10 : ∀ J1 : Nat → Nat → Int32, ∀ E2 : Nat → Nat → UInt64, (FRr (j_u I 260 51 (nI (n + 1))) D J1 E2) → (VQ (J1 380 c) (J1 388 c) (E2 372 c) (val β (fu (env β) i (0, kp (nI (bK β i)) x)) c)) → (Sm (E2 372 c)) → (¬ (J1 380 c) = 0) → ((J1 260 52) ||| 1) = 0 ∨ ((J1 260 52) ||| 1) = 1)
    (v11 : ∀ J1 : Nat → Nat → Int32, ∀ E2 : Nat → Nat → UInt64, (FRr (j_u I 260 51 (nI (n + 1))) D J1 E2) → (VQ (J1 380 c) (J1 388 c) (E2 372 c) (val β (fu (env β) i (0, kp (nI (bK β i)) x)) c)) → (Sm (E2 372 c)) → (¬ (J1 380 c) = 0) → Q (some (.double (E2 372 c))) w1 ((j_u J1 260 52 ((J1 260 52) ||| 1)), E2, RR R)) : j_Call d 268 [.ref 260, .int (nI i), .int (nI c), .double x] w1 (I, D, RR R) 0 0 Q := by
  refine q_enter (L := [some (.ref 260), some (.int (nI i)), some (.int (nI c)), some (.double x), none, none, none]) j_m268 (Nat.le_of_ble_eq_true rfl) rfl ?_
  refine q_aload_n d268_0 rfl ?_
  refine q_dup rfl d268_1 ?_
  refine q_getI d268_2 (fs10_511 268 rfl) rfl (lt_w1 rfl) sh260 ?_
  refine r_int (y := (nI n)) (show I 260 51 = (nI n) from h51) ?_
  refine q_iconst (v := 1) (by decide) d268_5 ?_
  refine q_iadd d268_6 ?_
  refine r_int (y := (nI (n + 1))) (nI_add n 1) ?_
  refine q_putI d268_7 (fs10_511 268 rfl) (Or.inl rfl) rfl (lt_w1 rfl) sh260 ?_
  refine q_aload_n d268_10 rfl ?_
  refine q_iload_n d268_11 rfl ?_
  refine q_dload_n d268_12 rfl ?_
  refine q_iload_n d268_13 rfl ?_
  refine q_invV (o := 260) (ci := 10) (av := [.int (nI i), .double x, .int (nI c)]) (rest := []) (d' := 90) (mc' := 0) (ms' := 0) d268_14 (cv10_341 268 rfl) rfl (by decide) rfl rfl (by omega) (Nat.le_of_ble_eq_true rfl) (Nat.le_of_ble_eq_true rfl) (lt_w1 rfl) sh260 (Nat.le_refl _) (Nat.le_refl _) ?_
  refine c206s (η := env β) hV v1 v2 v3 v4 v5 v6 (fun J1 E2 h3 h4 h5 => ?_)
  show j_W 268 d 0 0 0 0 17 [some (.ref 260), some (.int (nI i)), some (.int (nI c)), some (.double x), none, none, none] [.double (E2 372 c)] w1 (J1, E2, RR R) Q
  refine q_dstore (L' := [some (.ref 260), some (.int (nI i)), some (.int (nI c)), some (.double x), none, some (.double (E2 372 c)), none]) d268_17 (Nat.le_of_ble_eq_true rfl) rfl ?_
  refine q_aload_n d268_19 rfl ?_
  refine q_dup rfl d268_20 ?_
  refine q_getI d268_21 (fs10_514 268 rfl) rfl (lt_w1 rfl) sh260 ?_
  refine q_aload_n d268_24 rfl ?_
  refine q_iload_n d268_25 rfl ?_
  refine q_invV (o := 260) (ci := 10) (av := [.int (nI c)]) (rest := [.int (J1 260 52), .ref 260]) (d' := 0) (mc' := 0) (ms' := 0) d268_26 (cv10_332 268 rfl) rfl (by decide) rfl rfl (by omega) (Nat.le_of_ble_eq_true rfl) (Nat.le_of_ble_eq_true rfl) (lt_w1 rfl) sh260 (Nat.le_refl _) (Nat.le_refl _) ?_
  refine u200 v4 (v7 J1 E2 h3 h4 h5) ?_
  show j_W 268 d 0 0 0 0 29 [some (.ref 260), some (.int (nI i)), some (.int (nI c)), some (.double x), none, some (.double (E2 372 c)), none] [.int (J1 380 c), .int (J1 260 52), .ref 260] w1 (J1, E2, RR R) Q
  refine q_if_eq (tgt := 36) d268_29 rfl (fun h6t => ?_) (fun h6f => ?_)
  ·
    refine q_iconst (v := 0) (by decide) d268_36 ?_
    refine q_ior d268_37 ?_
    refine q_putZ d268_38 (fs10_514 268 rfl) (Or.inl rfl) rfl (v8 J1 E2 h3 h4 h5 h6t) (lt_w1 rfl) sh260 ?_
    refine q_dload d268_41 rfl ?_
    exact q_dret d268_43 rfl (Nat.le_refl _) (Nat.le_refl _) (v9 J1 E2 h3 h4 h5 h6t)
  ·
    refine q_iconst (v := 1) (by decide) d268_32 ?_
    refine q_goto (tgt := 37) d268_33 rfl ?_
    refine q_ior d268_37 ?_
    refine q_putZ d268_38 (fs10_514 268 rfl) (Or.inl rfl) rfl (v10 J1 E2 h3 h4 h5 h6f) (lt_w1 rfl) sh260 ?_
    refine q_dload d268_41 rfl ?_
    exact q_dret d268_43 rfl (Nat.le_refl _) (Nat.le_refl _) (v11 J1 E2 h3 h4 h5 h6f)

def FRm (I : Nat → Nat → Int32) (D : Nat → Nat → UInt64) (J : Nat → Nat → Int32) (E : Nat → Nat → UInt64) : Prop := (∀ q, ¬ qI 0 q → J q = I q) ∧ (∀ i, i ≠ 18 → i ≠ 26 → i ≠ 31 → i ≠ 32 → i ≠ 51 → i ≠ 52 → J 260 i = I 260 i) ∧ (∀ q, ¬ qD 0 q → E q = D q)
theorem FRm.refl {I : Nat → Nat → Int32} {D : Nat → Nat → UInt64} : FRm I D I D := ⟨fun _ _ => rfl, fun _ _ _ _ _ _ _ => rfl, fun _ _ => rfl⟩
theorem FRm.tr {I J K : Nat → Nat → Int32} {D E F : Nat → Nat → UInt64} (h : FRm I D J E) (g : FRm J E K F) : FRm I D K F := ⟨fun q a => (g.1 q a).trans (h.1 q a), fun i a1 a2 a3 a4 a5 a6 => (g.2.1 i a1 a2 a3 a4 a5 a6).trans (h.2.1 i a1 a2 a3 a4 a5 a6), fun q a => (g.2.2 q a).trans (h.2.2 q a)⟩
theorem FRm.st {β : Bd} {I J : Nat → Nat → Int32} {D E : Nat → Nat → UInt64} (h : FRm I D J E) (hS : RSt β I D) : RSt β J E := hS.cg (fun q a1 a2 _ => h.1 q (by unfold qI; omega)) (fun q a1 a2 _ => h.2.2 q (by unfold qD; omega))
theorem FRm.inp {β : Bd} {I J : Nat → Nat → Int32} {D E : Nat → Nat → UInt64} {η : VEnv} (h : FRm I D J E) (hS : RIn β I D η) : RIn β J E η := hS.cg (h.1 262 (by unfold qI; omega)) (h.2.2 263 (by unfold qD; omega))
theorem c268 {β : Bd} {I : Nat → Nat → Int32} {D : Nat → Nat → UInt64} {R : Nat → Nat → Option Nat} {Q : j_Po} {d i c n : Nat} {x : UInt64} (hd : 101 ≤ d) (hV : BV β) (hS : RSt β I D) (hI : RIn β I D (env β)) (hi : i < 24) (hc : c < 24) (hx : Sm x) (h51 : I 260 51 = nI n) (h52 : I 260 52 = 0) (hq : ∀ J E, FRm I D J E → J 260 51 = nI (n + 1) → J 260 52 = (if (val β (fu (env β) i (0, kp (nI (bK β i)) x)) c).1 = 0 then 0 else 1) → ((val β (fu (env β) i (0, kp (nI (bK β i)) x)) c).1 = 0 → E 372 c = (val β (fu (env β) i (0, kp (nI (bK β i)) x)) c).2) → Sm (E 372 c) → Q (some (.double (E 372 c))) w1 (J, E, RR R)) : j_Call d 268 [.ref 260, .int (nI i), .int (nI c), .double x] w1 (I, D, RR R) 0 0 Q := by
  have f0 : FRm I D (j_u I 260 51 (nI (n + 1))) D := ⟨fun q a => by funext k; rw [j_u_o _ _ _ (fun e => a (Or.inl e))], fun i _ _ _ _ a5 _ => by rw [j_u_k _ _ a5], fun _ _ => rfl⟩
  have z52 : ∀ {J : Nat → Nat → Int32} {E : Nat → Nat → UInt64}, FRr (j_u I 260 51 (nI (n + 1))) D J E → J 260 52 = 0 := fun h1 => by
    rw [h1.2.1 52 (by decide) (by decide) (by decide) (by decide), j_u_k _ _ (by decide)]; exact h52
  have go : ∀ (J : Nat → Nat → Int32) (E : Nat → Nat → UInt64) (v : Int32), FRr (j_u I 260 51 (nI (n + 1))) D J E → VQ (J 380 c) (J 388 c) (E 372 c) (val β (fu (env β) i (0, kp (nI (bK β i)) x)) c) → Sm (E 372 c) → v = (if (val β (fu (env β) i (0, kp (nI (bK β i)) x)) c).1 = 0 then 0 else 1) → Q (some (.double (E 372 c))) w1 (j_u J 260 52 (J 260 52 ||| v), E, RR R) := fun J E v h1 h2 h3 hv => by
    have j52 : J 260 52 = 0 := by rw [h1.2.1 52 (by decide) (by decide) (by decide) (by decide), j_u_k _ _ (by decide)]; exact h52
    refine hq _ _ (f0.tr ⟨fun q a => ?_, fun i a1 a2 a3 a4 a5 a6 => ?_, fun q a => h1.2.2 q a⟩) ?_ ?_ (fun h => (h2.2.2.1 h).1) h3
    · funext k
      rw [j_u_o _ _ _ (fun e => a (Or.inl e)), h1.1 q a]
    · rw [j_u_k _ _ a6, h1.2.1 i a1 a2 a3 a4]
    · rw [j_u_k _ _ (by decide), h1.2.1 51 (by decide) (by decide) (by decide) (by decide), j_u_same]
    · rw [j_u_same, j52, hv]; split <;> decide
  refine u268 (β := β) hV hi hc h51 (by omega) (f0.st hS) (f0.inp hI) hi hc hx (Nat.le_refl _) (fun _ _ _ _ _ => Nat.le_refl _) (fun J E h1 _ _ _ => Or.inl (by rw [z52 h1]; decide)) (fun J E h1 h2 h3 h => go J E 0 h1 h2 h3 (by rw [if_pos (h2.z.mp h)])) (fun J E h1 _ _ _ => Or.inr (by rw [z52 h1]; decide)) (fun J E h1 h2 h3 h => go J E 1 h1 h2 h3 (by rw [if_neg (fun q => h (h2.z.mpr q))]))
set_option maxRecDepth 10000 in
set_option maxHeartbeats 4000000 in
theorem u267a {d : Nat} {I : Nat → Nat → Int32} {D : Nat → Nat → UInt64} {R : Nat → Nat → Option Nat} {Q : j_Po} {i : Nat} {c : Nat} {l : UInt64} {h : UInt64} {w : UInt64} {β : Bd} {n : Nat} (hV : BV β) (hd : 110 ≤ d)
    (v1 : RSt β I D)
    (v2 : RIn β I D (env β))
    (v3 : i < 24)
    (v4 : c < 24)
    (v5 : Sm l)
    (v6 : I 260 51 = nI n)
    (v7 : I 260 52 = 0)
    (v8 : ∀ J1 : Nat → Nat → Int32, ∀ E2 : Nat → Nat → UInt64, (FRm I D J1 E2) → (J1 260 51 = nI (n + 1)) → (J1 260 52 = (if (val β (fu (env β) i (0, kp (nI (bK β i)) l)) c).1 = 0 then 0 else 1)) → ((val β (fu (env β) i (0, kp (nI (bK β i)) l)) c).1 = 0 → E2 372 c = (val β (fu (env β) i (0, kp (nI (bK β i)) l)) c).2) → (Sm (E2 372 c)) → j_W 267 d 0 0 0 0 17 [some (.ref 260), some (.int (nI i)), some (.int (nI c)), none, none, none, none, some (.double w), none, some (.double l), none, some (.double h), none, some (.double (E2 372 c)), none, none, none, none, none, none, none, none, none, none, none] [] w1 (J1, E2, RR R) Q) : j_Call d 267 [.ref 260, .int (nI i), .int (nI c), .double l, .double h, .double w] w1 (I, D, RR R) 0 0 Q := by
  refine q_enter (L := [some (.ref 260), some (.int (nI i)), some (.int (nI c)), some (.double l), none, some (.double h), none, some (.double w), none, none, none, none, none, none, none, none, none, none, none, none, none, none, none, none, none]) j_m267 (Nat.le_of_ble_eq_true rfl) rfl ?_
  refine q_dload_n d267_0 rfl ?_
  refine q_dstore (L' := [some (.ref 260), some (.int (nI i)), some (.int (nI c)), some (.double l), none, some (.double h), none, some (.double w), none, some (.double l), none, none, none, none, none, none, none, none, none, none, none, none, none, none, none]) d267_1 (Nat.le_of_ble_eq_true rfl) rfl ?_
  refine q_dload d267_3 rfl ?_
  refine q_dstore (L' := [some (.ref 260), some (.int (nI i)), some (.int (nI c)), some (.double l), none, some (.double h), none, some (.double w), none, some (.double l), none, some (.double h), none, none, none, none, none, none, none, none, none, none, none, none, none]) d267_5 (Nat.le_of_ble_eq_true rfl) rfl ?_
  refine q_aload_n d267_7 rfl ?_
  refine q_iload_n d267_8 rfl ?_
  refine q_iload_n d267_9 rfl ?_
  refine q_dload d267_10 rfl ?_
  refine q_invV (o := 260) (ci := 10) (av := [.int (nI i), .int (nI c), .double l]) (rest := []) (d' := 101) (mc' := 0) (ms' := 0) d267_12 (cv10_523 267 rfl) rfl (by decide) rfl rfl (by omega) (Nat.le_of_ble_eq_true rfl) (Nat.le_of_ble_eq_true rfl) (lt_w1 rfl) sh260 (Nat.le_refl _) (Nat.le_refl _) ?_
  refine c268 (n := n) (Nat.le_refl 101) hV v1 v2 v3 v4 v5 v6 v7 (fun J1 E2 h3 h4 h5 h6 h7 => ?_)
  show j_W 267 d 0 0 0 0 15 [some (.ref 260), some (.int (nI i)), some (.int (nI c)), some (.double l), none, some (.double h), none, some (.double w), none, some (.double l), none, some (.double h), none, none, none, none, none, none, none, none, none, none, none, none, none] [.double (E2 372 c)] w1 (J1, E2, RR R) Q
  refine q_dstore (L' := [some (.ref 260), some (.int (nI i)), some (.int (nI c)), some (.double l), none, some (.double h), none, some (.double w), none, some (.double l), none, some (.double h), none, some (.double (E2 372 c)), none, none, none, none, none, none, none, none, none, none, none]) d267_15 (Nat.le_of_ble_eq_true rfl) rfl ?_
  exact r_sub (L' := [some (.ref 260), some (.int (nI i)), some (.int (nI c)), none, none, none, none, some (.double w), none, some (.double l), none, some (.double h), none, some (.double (E2 372 c)), none, none, none, none, none, none, none, none, none, none, none]) ⟨rfl, rfl, rfl, rfl, rfl, rfl, rfl, trivial⟩ (v8 J1 E2 h3 h4 h5 h6 h7)

set_option maxRecDepth 10000 in
set_option maxHeartbeats 4000000 in
theorem u267b {d : Nat} {I : Nat → Nat → Int32} {D : Nat → Nat → UInt64} {R : Nat → Nat → Option Nat} {Q : j_Po} {i : Nat} {c : Nat} {w : UInt64} {l : UInt64} {h : UInt64} {fl : UInt64} {β : Bd} {n : Nat} (hV : BV β) (hd : 110 ≤ d)
    (v1 : ((I 260 52) = 0) → RSt β I D)
    (v2 : ((I 260 52) = 0) → RIn β I D (env β))
    (v3 : ((I 260 52) = 0) → i < 24)
    (v4 : ((I 260 52) = 0) → c < 24)
    (v5 : ((I 260 52) = 0) → Sm h)
    (v6 : ((I 260 52) = 0) → I 260 51 = nI n)
    (v7 : ((I 260 52) = 0) → I 260 52 = 0)
    (v8 : ((I 260 52) = 0) → ∀ J2 : Nat → Nat → Int32, ∀ E3 : Nat → Nat → UInt64, (FRm I D J2 E3) → (J2 260 51 = nI (n + 1)) → (J2 260 52 = (if (val β (fu (env β) i (0, kp (nI (bK β i)) h)) c).1 = 0 then 0 else 1)) → ((val β (fu (env β) i (0, kp (nI (bK β i)) h)) c).1 = 0 → E3 372 c = (val β (fu (env β) i (0, kp (nI (bK β i)) h)) c).2) → (Sm (E3 372 c)) → j_W 267 d 0 0 0 0 36 [some (.ref 260), some (.int (nI i)), some (.int (nI c)), none, none, none, none, some (.double w), none, some (.double l), none, some (.double h), none, some (.double fl), none, some (.double (E3 372 c)), none, none, none, none, none, none, none, none, none] [] w1 (J2, E3, RR R) Q)
    (v9 : (¬ (I 260 52) = 0) → Q (some (.int 0)) w1 (I, D, RR R)) : j_W 267 d 0 0 0 0 17 [some (.ref 260), some (.int (nI i)), some (.int (nI c)), none, none, none, none, some (.double w), none, some (.double l), none, some (.double h), none, some (.double fl), none, none, none, none, none, none, none, none, none, none, none] [] w1 (I, D, RR R) Q := by
  refine q_aload_n d267_17 rfl ?_
  refine q_getI d267_18 (fs10_514 267 rfl) rfl (lt_w1 rfl) sh260 ?_
  refine q_if_eq (tgt := 26) d267_21 rfl (fun h1t => ?_) (fun h1f => ?_)
  ·
    refine q_aload_n d267_26 rfl ?_
    refine q_iload_n d267_27 rfl ?_
    refine q_iload_n d267_28 rfl ?_
    refine q_dload d267_29 rfl ?_
    refine q_invV (o := 260) (ci := 10) (av := [.int (nI i), .int (nI c), .double h]) (rest := []) (d' := 101) (mc' := 0) (ms' := 0) d267_31 (cv10_523 267 rfl) rfl (by decide) rfl rfl (by omega) (Nat.le_of_ble_eq_true rfl) (Nat.le_of_ble_eq_true rfl) (lt_w1 rfl) sh260 (Nat.le_refl _) (Nat.le_refl _) ?_
    refine c268 (n := n) (Nat.le_refl 101) hV (v1 h1t) (v2 h1t) (v3 h1t) (v4 h1t) (v5 h1t) (v6 h1t) (v7 h1t) (fun J2 E3 h4 h5 h6 h7 h8 => ?_)
    show j_W 267 d 0 0 0 0 34 [some (.ref 260), some (.int (nI i)), some (.int (nI c)), none, none, none, none, some (.double w), none, some (.double l), none, some (.double h), none, some (.double fl), none, none, none, none, none, none, none, none, none, none, none] [.double (E3 372 c)] w1 (J2, E3, RR R) Q
    refine q_dstore (L' := [some (.ref 260), some (.int (nI i)), some (.int (nI c)), none, none, none, none, some (.double w), none, some (.double l), none, some (.double h), none, some (.double fl), none, some (.double (E3 372 c)), none, none, none, none, none, none, none, none, none]) d267_34 (Nat.le_of_ble_eq_true rfl) rfl ?_
    exact r_sub (L' := [some (.ref 260), some (.int (nI i)), some (.int (nI c)), none, none, none, none, some (.double w), none, some (.double l), none, some (.double h), none, some (.double fl), none, some (.double (E3 372 c)), none, none, none, none, none, none, none, none, none]) ⟨rfl, rfl, rfl, rfl, rfl, rfl, rfl, rfl, trivial⟩ (v8 h1t J2 E3 h4 h5 h6 h7 h8)
  ·
    refine q_iconst (v := 0) (by decide) d267_24 ?_
    exact q_zret d267_25 rfl (Or.inl rfl) (Nat.le_refl _) (Nat.le_refl _) (v9 h1f)

set_option maxRecDepth 10000 in
set_option maxHeartbeats 4000000 in
theorem u267c {d : Nat} {I : Nat → Nat → Int32} {D : Nat → Nat → UInt64} {R : Nat → Nat → Option Nat} {Q : j_Po} {i : Nat} {c : Nat} {w : UInt64} {l : UInt64} {h : UInt64} {fl : UInt64} {fh : UInt64}   (hd : 3 ≤ d)
    (v1 : ((I 260 52) = 0) → (deq fl w = true) → (deq fl w = false) → Q (some (.int 1)) w1 (I, (j_u (j_u D 260 53 h) 260 54 w), RR R))
    (v2 : ((I 260 52) = 0) → (deq fl w = true) → (deq fl w = true) → Q (some (.int 1)) w1 (I, (j_u (j_u D 260 53 l) 260 54 w), RR R))
    (v3 : ((I 260 52) = 0) → (deq fl w = false) → (deq fh w = false) → (dlt fl w = false) → (dlt fh w = false) → Q (some (.int 0)) w1 (I, D, RR R))
    (v4 : ((I 260 52) = 0) → (deq fl w = false) → (deq fh w = false) → (dlt fl w = false) → (dlt fh w = true) → j_W 267 d 0 0 0 0 121 [some (.ref 260), some (.int (nI i)), some (.int (nI c)), none, none, none, none, some (.double w), none, some (.double l), none, some (.double h), none, some (.double fl), none, some (.double fh), none, some (.int 0), some (.int 0), none, none, none, none, none, none] [] w1 (I, D, RR R) Q)
    (v5 : ((I 260 52) = 0) → (deq fl w = false) → (deq fh w = false) → (dlt fl w = true) → (dlt fh w = false) → j_W 267 d 0 0 0 0 121 [some (.ref 260), some (.int (nI i)), some (.int (nI c)), none, none, none, none, some (.double w), none, some (.double l), none, some (.double h), none, some (.double fl), none, some (.double fh), none, some (.int 0), some (.int 0), none, none, none, none, none, none] [] w1 (I, D, RR R) Q)
    (v6 : ((I 260 52) = 0) → (deq fl w = false) → (deq fh w = false) → (dlt fl w = true) → (dlt fh w = true) → Q (some (.int 0)) w1 (I, D, RR R))
    (v7 : ((I 260 52) = 0) → (deq fl w = false) → (deq fh w = true) → (deq fl w = false) → Q (some (.int 1)) w1 (I, (j_u (j_u D 260 53 h) 260 54 w), RR R))
    (v8 : ((I 260 52) = 0) → (deq fl w = false) → (deq fh w = true) → (deq fl w = true) → Q (some (.int 1)) w1 (I, (j_u (j_u D 260 53 l) 260 54 w), RR R))
    (v9 : (¬ (I 260 52) = 0) → Q (some (.int 0)) w1 (I, D, RR R)) : j_W 267 d 0 0 0 0 36 [some (.ref 260), some (.int (nI i)), some (.int (nI c)), none, none, none, none, some (.double w), none, some (.double l), none, some (.double h), none, some (.double fl), none, some (.double fh), none, none, none, none, none, none, none, none, none] [] w1 (I, D, RR R) Q := by
  refine q_aload_n d267_36 rfl ?_
  refine q_getI d267_37 (fs10_514 267 rfl) rfl (lt_w1 rfl) sh260 ?_
  refine q_if_eq (tgt := 45) d267_40 rfl (fun h1t => ?_) (fun h1f => ?_)
  ·
    refine q_dload d267_45 rfl ?_
    refine q_dload d267_47 rfl ?_
    refine q_dcmp d267_49 ?_
    refine q_if_eq (tgt := 61) d267_50 rfl (fun h2t => ?_) (fun h2f => ?_)
    ·
      have h2tc : deq fl w = true := dc_l_eq_t h2t
      refine q_aload_n d267_61 rfl ?_
      refine q_dload d267_62 rfl ?_
      refine q_dload d267_64 rfl ?_
      refine q_dcmp d267_66 ?_
      refine q_if_ne (tgt := 75) d267_67 rfl (fun h3t => ?_) (fun h3f => ?_)
      ·
        have h3tc : deq fl w = false := dc_l_ne_t h3t
        refine q_dload d267_75 rfl ?_
        refine q_dload d267_77 rfl ?_
        refine q_invV (o := 260) (ci := 10) (av := [.double h, .double w]) (rest := []) (d' := 0) (mc' := 0) (ms' := 0) d267_79 (cv10_527 267 rfl) rfl (by decide) rfl rfl (by omega) (Nat.le_of_ble_eq_true rfl) (Nat.le_of_ble_eq_true rfl) (lt_w1 rfl) sh260 (Nat.le_refl _) (Nat.le_refl _) ?_
        refine s269   (Nat.le_refl _) ?_
        show j_W 267 d 0 0 0 0 82 [some (.ref 260), some (.int (nI i)), some (.int (nI c)), none, none, none, none, some (.double w), none, some (.double l), none, some (.double h), none, some (.double fl), none, some (.double fh), none, none, none, none, none, none, none, none, none] [] w1 (I, (j_u (j_u D 260 53 h) 260 54 w), RR R) Q
        refine q_iconst (v := 1) (by decide) d267_82 ?_
        exact q_zret d267_83 rfl (Or.inr rfl) (Nat.le_refl _) (Nat.le_refl _) (v1 h1t h2tc h3tc)
      ·
        have h3fc : deq fl w = true := dc_l_ne_f h3f
        refine q_dload d267_70 rfl ?_
        refine q_goto (tgt := 77) d267_72 rfl ?_
        refine q_dload d267_77 rfl ?_
        refine q_invV (o := 260) (ci := 10) (av := [.double l, .double w]) (rest := []) (d' := 0) (mc' := 0) (ms' := 0) d267_79 (cv10_527 267 rfl) rfl (by decide) rfl rfl (by omega) (Nat.le_of_ble_eq_true rfl) (Nat.le_of_ble_eq_true rfl) (lt_w1 rfl) sh260 (Nat.le_refl _) (Nat.le_refl _) ?_
        refine s269   (Nat.le_refl _) ?_
        show j_W 267 d 0 0 0 0 82 [some (.ref 260), some (.int (nI i)), some (.int (nI c)), none, none, none, none, some (.double w), none, some (.double l), none, some (.double h), none, some (.double fl), none, some (.double fh), none, none, none, none, none, none, none, none, none] [] w1 (I, (j_u (j_u D 260 53 l) 260 54 w), RR R) Q
        refine q_iconst (v := 1) (by decide) d267_82 ?_
        exact q_zret d267_83 rfl (Or.inr rfl) (Nat.le_refl _) (Nat.le_refl _) (v2 h1t h2tc h3fc)
    ·
      have h2fc : deq fl w = false := dc_l_eq_f h2f
      refine q_dload d267_53 rfl ?_
      refine q_dload d267_55 rfl ?_
      refine q_dcmp d267_57 ?_
      refine q_if_ne (tgt := 84) d267_58 rfl (fun h4t => ?_) (fun h4f => ?_)
      ·
        have h4tc : deq fh w = false := dc_l_ne_t h4t
        refine q_dload d267_84 rfl ?_
        refine q_dload d267_86 rfl ?_
        refine q_dcmp d267_88 ?_
        refine q_if_ge (tgt := 96) d267_89 rfl (fun h5t => ?_) (fun h5f => ?_)
        ·
          have h5tc : dlt fl w = false := dc_g_ge_t h5t
          refine q_iconst (v := 0) (by decide) d267_96 ?_
          refine q_dload d267_97 rfl ?_
          refine q_dload d267_99 rfl ?_
          refine q_dcmp d267_101 ?_
          refine q_if_ge (tgt := 109) d267_102 rfl (fun h6t => ?_) (fun h6f => ?_)
          ·
            have h6tc : dlt fh w = false := dc_g_ge_t h6t
            refine q_iconst (v := 0) (by decide) d267_109 ?_
            refine q_icmp_ne (tgt := 115) d267_110 rfl (fun h => absurd h (by decide)) (fun _ => ?_)
            refine q_iconst (v := 0) (by decide) d267_113 ?_
            exact q_zret d267_114 rfl (Or.inl rfl) (Nat.le_refl _) (Nat.le_refl _) (v3 h1t h2fc h4tc h5tc h6tc)
          ·
            have h6fc : dlt fh w = true := dc_g_ge_f h6f
            refine q_iconst (v := 1) (by decide) d267_105 ?_
            refine q_goto (tgt := 110) d267_106 rfl ?_
            refine q_icmp_ne (tgt := 115) d267_110 rfl (fun _ => ?_) (fun h => absurd h (by decide))
            refine q_iconst (v := 0) (by decide) d267_115 ?_
            refine q_istore (L' := [some (.ref 260), some (.int (nI i)), some (.int (nI c)), none, none, none, none, some (.double w), none, some (.double l), none, some (.double h), none, some (.double fl), none, some (.double fh), none, some (.int 0), none, none, none, none, none, none, none]) d267_116 (Nat.le_of_ble_eq_true rfl) rfl ?_
            refine q_iconst (v := 0) (by decide) d267_118 ?_
            refine q_istore (L' := [some (.ref 260), some (.int (nI i)), some (.int (nI c)), none, none, none, none, some (.double w), none, some (.double l), none, some (.double h), none, some (.double fl), none, some (.double fh), none, some (.int 0), some (.int 0), none, none, none, none, none, none]) d267_119 (Nat.le_of_ble_eq_true rfl) rfl ?_
            exact r_sub (L' := [some (.ref 260), some (.int (nI i)), some (.int (nI c)), none, none, none, none, some (.double w), none, some (.double l), none, some (.double h), none, some (.double fl), none, some (.double fh), none, some (.int 0), some (.int 0), none, none, none, none, none, none]) ⟨rfl, rfl, rfl, rfl, rfl, rfl, rfl, rfl, rfl, rfl, trivial⟩ (v4 h1t h2fc h4tc h5tc h6fc)
        ·
          have h5fc : dlt fl w = true := dc_g_ge_f h5f
          refine q_iconst (v := 1) (by decide) d267_92 ?_
          refine q_goto (tgt := 97) d267_93 rfl ?_
          refine q_dload d267_97 rfl ?_
          refine q_dload d267_99 rfl ?_
          refine q_dcmp d267_101 ?_
          refine q_if_ge (tgt := 109) d267_102 rfl (fun h7t => ?_) (fun h7f => ?_)
          ·
            have h7tc : dlt fh w = false := dc_g_ge_t h7t
            refine q_iconst (v := 0) (by decide) d267_109 ?_
            refine q_icmp_ne (tgt := 115) d267_110 rfl (fun _ => ?_) (fun h => absurd h (by decide))
            refine q_iconst (v := 0) (by decide) d267_115 ?_
            refine q_istore (L' := [some (.ref 260), some (.int (nI i)), some (.int (nI c)), none, none, none, none, some (.double w), none, some (.double l), none, some (.double h), none, some (.double fl), none, some (.double fh), none, some (.int 0), none, none, none, none, none, none, none]) d267_116 (Nat.le_of_ble_eq_true rfl) rfl ?_
            refine q_iconst (v := 0) (by decide) d267_118 ?_
            refine q_istore (L' := [some (.ref 260), some (.int (nI i)), some (.int (nI c)), none, none, none, none, some (.double w), none, some (.double l), none, some (.double h), none, some (.double fl), none, some (.double fh), none, some (.int 0), some (.int 0), none, none, none, none, none, none]) d267_119 (Nat.le_of_ble_eq_true rfl) rfl ?_
            exact r_sub (L' := [some (.ref 260), some (.int (nI i)), some (.int (nI c)), none, none, none, none, some (.double w), none, some (.double l), none, some (.double h), none, some (.double fl), none, some (.double fh), none, some (.int 0), some (.int 0), none, none, none, none, none, none]) ⟨rfl, rfl, rfl, rfl, rfl, rfl, rfl, rfl, rfl, rfl, trivial⟩ (v5 h1t h2fc h4tc h5fc h7tc)
          ·
            have h7fc : dlt fh w = true := dc_g_ge_f h7f
            refine q_iconst (v := 1) (by decide) d267_105 ?_
            refine q_goto (tgt := 110) d267_106 rfl ?_
            refine q_icmp_ne (tgt := 115) d267_110 rfl (fun h => absurd h (by decide)) (fun _ => ?_)
            refine q_iconst (v := 0) (by decide) d267_113 ?_
            exact q_zret d267_114 rfl (Or.inl rfl) (Nat.le_refl _) (Nat.le_refl _) (v6 h1t h2fc h4tc h5fc h7fc)
      ·
        have h4fc : deq fh w = true := dc_l_ne_f h4f
        refine q_aload_n d267_61 rfl ?_
        refine q_dload d267_62 rfl ?_
        refine q_dload d267_64 rfl ?_
        refine q_dcmp d267_66 ?_
        refine q_if_ne (tgt := 75) d267_67 rfl (fun h8t => ?_) (fun h8f => ?_)
        ·
          have h8tc : deq fl w = false := dc_l_ne_t h8t
          refine q_dload d267_75 rfl ?_
          refine q_dload d267_77 rfl ?_
          refine q_invV (o := 260) (ci := 10) (av := [.double h, .double w]) (rest := []) (d' := 0) (mc' := 0) (ms' := 0) d267_79 (cv10_527 267 rfl) rfl (by decide) rfl rfl (by omega) (Nat.le_of_ble_eq_true rfl) (Nat.le_of_ble_eq_true rfl) (lt_w1 rfl) sh260 (Nat.le_refl _) (Nat.le_refl _) ?_
          refine s269   (Nat.le_refl _) ?_
          show j_W 267 d 0 0 0 0 82 [some (.ref 260), some (.int (nI i)), some (.int (nI c)), none, none, none, none, some (.double w), none, some (.double l), none, some (.double h), none, some (.double fl), none, some (.double fh), none, none, none, none, none, none, none, none, none] [] w1 (I, (j_u (j_u D 260 53 h) 260 54 w), RR R) Q
          refine q_iconst (v := 1) (by decide) d267_82 ?_
          exact q_zret d267_83 rfl (Or.inr rfl) (Nat.le_refl _) (Nat.le_refl _) (v7 h1t h2fc h4fc h8tc)
        ·
          have h8fc : deq fl w = true := dc_l_ne_f h8f
          refine q_dload d267_70 rfl ?_
          refine q_goto (tgt := 77) d267_72 rfl ?_
          refine q_dload d267_77 rfl ?_
          refine q_invV (o := 260) (ci := 10) (av := [.double l, .double w]) (rest := []) (d' := 0) (mc' := 0) (ms' := 0) d267_79 (cv10_527 267 rfl) rfl (by decide) rfl rfl (by omega) (Nat.le_of_ble_eq_true rfl) (Nat.le_of_ble_eq_true rfl) (lt_w1 rfl) sh260 (Nat.le_refl _) (Nat.le_refl _) ?_
          refine s269   (Nat.le_refl _) ?_
          show j_W 267 d 0 0 0 0 82 [some (.ref 260), some (.int (nI i)), some (.int (nI c)), none, none, none, none, some (.double w), none, some (.double l), none, some (.double h), none, some (.double fl), none, some (.double fh), none, none, none, none, none, none, none, none, none] [] w1 (I, (j_u (j_u D 260 53 l) 260 54 w), RR R) Q
          refine q_iconst (v := 1) (by decide) d267_82 ?_
          exact q_zret d267_83 rfl (Or.inr rfl) (Nat.le_refl _) (Nat.le_refl _) (v8 h1t h2fc h4fc h8fc)
  ·
    refine q_iconst (v := 0) (by decide) d267_43 ?_
    exact q_zret d267_44 rfl (Or.inl rfl) (Nat.le_refl _) (Nat.le_refl _) (v9 h1f)

set_option maxRecDepth 10000 in
set_option maxHeartbeats 4000000 in
theorem u267h {d : Nat} {I : Nat → Nat → Int32} {D : Nat → Nat → UInt64} {R : Nat → Nat → Option Nat} {Q : j_Po} {i : Nat} {c : Nat} {w : UInt64} {l : UInt64} {h : UInt64} {fl : UInt64} {fh : UInt64} {k : Nat} {b : Bool} (hk : k ≤ 40) (hd : 3 ≤ d)
    (v1 : (40 ≤ k) → j_W 267 d 0 0 0 0 322 [some (.ref 260), none, none, none, none, none, none, some (.double w), none, some (.double l), none, some (.double h), none, some (.double fl), none, some (.double fh), none, none, none, none, none, none, none, none, none] [] w1 (I, D, RR R) Q)
    (v2 : (¬ 40 ≤ k) → vf_n64 (FP.dsub h l))
    (v3 : (¬ 40 ≤ k) → vf_n64 (FP.ddiv (FP.dsub h l) 4611686018427387904))
    (v4 : (¬ 40 ≤ k) → vf_n64 (FP.dadd l (FP.ddiv (FP.dsub h l) 4611686018427387904)))
    (v5 : (¬ 40 ≤ k) → (b = false) → (dgt (FP.dadd l (FP.ddiv (FP.dsub h l) 4611686018427387904)) l = false) → j_W 267 d 0 0 0 0 322 [some (.ref 260), none, none, none, none, none, none, some (.double w), none, some (.double l), none, some (.double h), none, some (.double fl), none, some (.double fh), none, none, none, none, none, none, none, none, none] [] w1 (I, D, RR R) Q)
    (v6 : (¬ 40 ≤ k) → (b = false) → (dgt (FP.dadd l (FP.ddiv (FP.dsub h l) 4611686018427387904)) l = true) → (dlt (FP.dadd l (FP.ddiv (FP.dsub h l) 4611686018427387904)) h = true) → j_W 267 d 0 0 0 0 209 [some (.ref 260), some (.int (nI i)), some (.int (nI c)), none, none, none, none, some (.double w), none, some (.double l), none, some (.double h), none, some (.double fl), none, some (.double fh), none, none, some (.int (nI k)), some (.double (FP.dsub h l)), none, some (.double (FP.dadd l (FP.ddiv (FP.dsub h l) 4611686018427387904))), none, none, none] [] w1 (I, D, RR R) Q)
    (v7 : (¬ 40 ≤ k) → (b = false) → (dgt (FP.dadd l (FP.ddiv (FP.dsub h l) 4611686018427387904)) l = true) → (dlt (FP.dadd l (FP.ddiv (FP.dsub h l) 4611686018427387904)) h = false) → j_W 267 d 0 0 0 0 322 [some (.ref 260), none, none, none, none, none, none, some (.double w), none, some (.double l), none, some (.double h), none, some (.double fl), none, some (.double fh), none, none, none, none, none, none, none, none, none] [] w1 (I, D, RR R) Q)
    (v8 : (¬ 40 ≤ k) → (b = true) → vf_n64 (FP.dsub w fl))
    (v9 : (¬ 40 ≤ k) → (b = true) → vf_n64 (FP.dmul (FP.dsub w fl) (FP.dsub h l)))
    (v10 : (¬ 40 ≤ k) → (b = true) → vf_n64 (FP.dsub fh fl))
    (v11 : (¬ 40 ≤ k) → (b = true) → vf_n64 (FP.ddiv (FP.dmul (FP.dsub w fl) (FP.dsub h l)) (FP.dsub fh fl)))
    (v12 : (¬ 40 ≤ k) → (b = true) → vf_n64 (FP.dadd l (FP.ddiv (FP.dmul (FP.dsub w fl) (FP.dsub h l)) (FP.dsub fh fl))))
    (v13 : (¬ 40 ≤ k) → (b = true) → (dgt (FP.dadd l (FP.ddiv (FP.dmul (FP.dsub w fl) (FP.dsub h l)) (FP.dsub fh fl))) l = false) → (dgt (FP.dadd l (FP.ddiv (FP.dsub h l) 4611686018427387904)) l = false) → j_W 267 d 0 0 0 0 322 [some (.ref 260), none, none, none, none, none, none, some (.double w), none, some (.double l), none, some (.double h), none, some (.double fl), none, some (.double fh), none, none, none, none, none, none, none, none, none] [] w1 (I, D, RR R) Q)
    (v14 : (¬ 40 ≤ k) → (b = true) → (dgt (FP.dadd l (FP.ddiv (FP.dmul (FP.dsub w fl) (FP.dsub h l)) (FP.dsub fh fl))) l = false) → (dgt (FP.dadd l (FP.ddiv (FP.dsub h l) 4611686018427387904)) l = true) → (dlt (FP.dadd l (FP.ddiv (FP.dsub h l) 4611686018427387904)) h = true) → j_W 267 d 0 0 0 0 209 [some (.ref 260), some (.int (nI i)), some (.int (nI c)), none, none, none, none, some (.double w), none, some (.double l), none, some (.double h), none, some (.double fl), none, some (.double fh), none, none, some (.int (nI k)), some (.double (FP.dsub h l)), none, some (.double (FP.dadd l (FP.ddiv (FP.dsub h l) 4611686018427387904))), none, none, none] [] w1 (I, D, RR R) Q)
    (v15 : (¬ 40 ≤ k) → (b = true) → (dgt (FP.dadd l (FP.ddiv (FP.dmul (FP.dsub w fl) (FP.dsub h l)) (FP.dsub fh fl))) l = false) → (dgt (FP.dadd l (FP.ddiv (FP.dsub h l) 4611686018427387904)) l = true) → (dlt (FP.dadd l (FP.ddiv (FP.dsub h l) 4611686018427387904)) h = false) → j_W 267 d 0 0 0 0 322 [some (.ref 260), none, none, none, none, none, none, some (.double w), none, some (.double l), none, some (.double h), none, some (.double fl), none, some (.double fh), none, none, none, none, none, none, none, none, none] [] w1 (I, D, RR R) Q)
    (v16 : (¬ 40 ≤ k) → (b = true) → (dgt (FP.dadd l (FP.ddiv (FP.dmul (FP.dsub w fl) (FP.dsub h l)) (FP.dsub fh fl))) l = true) → (dlt (FP.dadd l (FP.ddiv (FP.dmul (FP.dsub w fl) (FP.dsub h l)) (FP.dsub fh fl))) h = false) → (dgt (FP.dadd l (FP.ddiv (FP.dsub h l) 4611686018427387904)) l = false) → j_W 267 d 0 0 0 0 322 [some (.ref 260), none, none, none, none, none, none, some (.double w), none, some (.double l), none, some (.double h), none, some (.double fl), none, some (.double fh), none, none, none, none, none, none, none, none, none] [] w1 (I, D, RR R) Q)
    (v17 : (¬ 40 ≤ k) → (b = true) → (dgt (FP.dadd l (FP.ddiv (FP.dmul (FP.dsub w fl) (FP.dsub h l)) (FP.dsub fh fl))) l = true) → (dlt (FP.dadd l (FP.ddiv (FP.dmul (FP.dsub w fl) (FP.dsub h l)) (FP.dsub fh fl))) h = false) → (dgt (FP.dadd l (FP.ddiv (FP.dsub h l) 4611686018427387904)) l = true) → (dlt (FP.dadd l (FP.ddiv (FP.dsub h l) 4611686018427387904)) h = true) → j_W 267 d 0 0 0 0 209 [some (.ref 260), some (.int (nI i)), some (.int (nI c)), none, none, none, none, some (.double w), none, some (.double l), none, some (.double h), none, some (.double fl), none, some (.double fh), none, none, some (.int (nI k)), some (.double (FP.dsub h l)), none, some (.double (FP.dadd l (FP.ddiv (FP.dsub h l) 4611686018427387904))), none, none, none] [] w1 (I, D, RR R) Q)
    (v18 : (¬ 40 ≤ k) → (b = true) → (dgt (FP.dadd l (FP.ddiv (FP.dmul (FP.dsub w fl) (FP.dsub h l)) (FP.dsub fh fl))) l = true) → (dlt (FP.dadd l (FP.ddiv (FP.dmul (FP.dsub w fl) (FP.dsub h l)) (FP.dsub fh fl))) h = false) → (dgt (FP.dadd l (FP.ddiv (FP.dsub h l) 4611686018427387904)) l = true) → (dlt (FP.dadd l (FP.ddiv (FP.dsub h l) 4611686018427387904)) h = false) → j_W 267 d 0 0 0 0 322 [some (.ref 260), none, none, none, none, none, none, some (.double w), none, some (.double l), none, some (.double h), none, some (.double fl), none, some (.double fh), none, none, none, none, none, none, none, none, none] [] w1 (I, D, RR R) Q)
    (v19 : (¬ 40 ≤ k) → (b = true) → (dgt (FP.dadd l (FP.ddiv (FP.dmul (FP.dsub w fl) (FP.dsub h l)) (FP.dsub fh fl))) l = true) → (dlt (FP.dadd l (FP.ddiv (FP.dmul (FP.dsub w fl) (FP.dsub h l)) (FP.dsub fh fl))) h = true) → (dgt (FP.dadd l (FP.ddiv (FP.dmul (FP.dsub w fl) (FP.dsub h l)) (FP.dsub fh fl))) l = false) → j_W 267 d 0 0 0 0 322 [some (.ref 260), none, none, none, none, none, none, some (.double w), none, some (.double l), none, some (.double h), none, some (.double fl), none, some (.double fh), none, none, none, none, none, none, none, none, none] [] w1 (I, D, RR R) Q)
    (v20 : (¬ 40 ≤ k) → (b = true) → (dgt (FP.dadd l (FP.ddiv (FP.dmul (FP.dsub w fl) (FP.dsub h l)) (FP.dsub fh fl))) l = true) → (dlt (FP.dadd l (FP.ddiv (FP.dmul (FP.dsub w fl) (FP.dsub h l)) (FP.dsub fh fl))) h = true) → (dgt (FP.dadd l (FP.ddiv (FP.dmul (FP.dsub w fl) (FP.dsub h l)) (FP.dsub fh fl))) l = true) → (dlt (FP.dadd l (FP.ddiv (FP.dmul (FP.dsub w fl) (FP.dsub h l)) (FP.dsub fh fl))) h = true) → j_W 267 d 0 0 0 0 209 [some (.ref 260), some (.int (nI i)), some (.int (nI c)), none, none, none, none, some (.double w), none, some (.double l), none, some (.double h), none, some (.double fl), none, some (.double fh), none, none, some (.int (nI k)), some (.double (FP.dsub h l)), none, some (.double (FP.dadd l (FP.ddiv (FP.dmul (FP.dsub w fl) (FP.dsub h l)) (FP.dsub fh fl)))), none, none, none] [] w1 (I, D, RR R) Q)
    (v21 : (¬ 40 ≤ k) → (b = true) → (dgt (FP.dadd l (FP.ddiv (FP.dmul (FP.dsub w fl) (FP.dsub h l)) (FP.dsub fh fl))) l = true) → (dlt (FP.dadd l (FP.ddiv (FP.dmul (FP.dsub w fl) (FP.dsub h l)) (FP.dsub fh fl))) h = true) → (dgt (FP.dadd l (FP.ddiv (FP.dmul (FP.dsub w fl) (FP.dsub h l)) (FP.dsub fh fl))) l = true) → (dlt (FP.dadd l (FP.ddiv (FP.dmul (FP.dsub w fl) (FP.dsub h l)) (FP.dsub fh fl))) h = false) → j_W 267 d 0 0 0 0 322 [some (.ref 260), none, none, none, none, none, none, some (.double w), none, some (.double l), none, some (.double h), none, some (.double fl), none, some (.double fh), none, none, none, none, none, none, none, none, none] [] w1 (I, D, RR R) Q) : j_W 267 d 0 0 0 0 121 [some (.ref 260), some (.int (nI i)), some (.int (nI c)), none, none, none, none, some (.double w), none, some (.double l), none, some (.double h), none, some (.double fl), none, some (.double fh), none, some (.int (bi b)), some (.int (nI k)), none, none, none, none, none, none] [] w1 (I, D, RR R) Q := by
  refine q_iload d267_121 rfl ?_
  refine q_bipush (v := 40) (by decide) d267_123 ?_
  refine q_icmp_ge (tgt := 322) d267_125 rfl (fun h1t => ?_) (fun h1f => ?_)
  ·
    have h1tc : 40 ≤ k := (nI_leI (by omega) (by omega)).mp h1t
    exact r_sub (L' := [some (.ref 260), none, none, none, none, none, none, some (.double w), none, some (.double l), none, some (.double h), none, some (.double fl), none, some (.double fh), none, none, none, none, none, none, none, none, none]) ⟨rfl, rfl, rfl, rfl, rfl, rfl, trivial⟩ (v1 h1tc)
  ·
    have h1fc : ¬ 40 ≤ k := mt (nI_leI (by omega) (by omega)).mpr h1f
    refine q_dload d267_128 rfl ?_
    refine q_dload d267_130 rfl ?_
    refine q_dsub (v2 h1fc) d267_132 ?_
    refine q_dstore (L' := [some (.ref 260), some (.int (nI i)), some (.int (nI c)), none, none, none, none, some (.double w), none, some (.double l), none, some (.double h), none, some (.double fl), none, some (.double fh), none, some (.int (bi b)), some (.int (nI k)), some (.double (FP.dsub h l)), none, none, none, none, none]) d267_133 (Nat.le_of_ble_eq_true rfl) rfl ?_
    refine q_dload d267_135 rfl ?_
    refine q_dload d267_137 rfl ?_
    refine q_ldcD (v := 4611686018427387904) d267_139 (kc10_531 267 rfl) ?_
    refine q_ddiv (v3 h1fc) d267_142 ?_
    refine q_dadd (v4 h1fc) d267_143 ?_
    refine q_dstore (L' := [some (.ref 260), some (.int (nI i)), some (.int (nI c)), none, none, none, none, some (.double w), none, some (.double l), none, some (.double h), none, some (.double fl), none, some (.double fh), none, some (.int (bi b)), some (.int (nI k)), some (.double (FP.dsub h l)), none, some (.double (FP.dadd l (FP.ddiv (FP.dsub h l) 4611686018427387904))), none, none, none]) d267_144 (Nat.le_of_ble_eq_true rfl) rfl ?_
    refine q_iload d267_146 rfl ?_
    refine q_if_eq (tgt := 190) d267_148 rfl (fun h2t => ?_) (fun h2f => ?_)
    ·
      have h2tc : b = false := bi_0 h2t
      refine q_dload d267_190 rfl ?_
      refine q_dload d267_192 rfl ?_
      refine q_dcmp d267_194 ?_
      refine q_if_le (tgt := 322) d267_195 rfl (fun h3t => ?_) (fun h3f => ?_)
      ·
        have h3tc : dgt (FP.dadd l (FP.ddiv (FP.dsub h l) 4611686018427387904)) l = false := dc_l_le_t h3t
        exact r_sub (L' := [some (.ref 260), none, none, none, none, none, none, some (.double w), none, some (.double l), none, some (.double h), none, some (.double fl), none, some (.double fh), none, none, none, none, none, none, none, none, none]) ⟨rfl, rfl, rfl, rfl, rfl, rfl, trivial⟩ (v5 h1fc h2tc h3tc)
      ·
        have h3fc : dgt (FP.dadd l (FP.ddiv (FP.dsub h l) 4611686018427387904)) l = true := dc_l_le_f h3f
        refine q_dload d267_198 rfl ?_
        refine q_dload d267_200 rfl ?_
        refine q_dcmp d267_202 ?_
        refine q_if_lt (tgt := 209) d267_203 rfl (fun h4t => ?_) (fun h4f => ?_)
        ·
          have h4tc : dlt (FP.dadd l (FP.ddiv (FP.dsub h l) 4611686018427387904)) h = true := dc_g_lt_t h4t
          exact r_sub (L' := [some (.ref 260), some (.int (nI i)), some (.int (nI c)), none, none, none, none, some (.double w), none, some (.double l), none, some (.double h), none, some (.double fl), none, some (.double fh), none, none, some (.int (nI k)), some (.double (FP.dsub h l)), none, some (.double (FP.dadd l (FP.ddiv (FP.dsub h l) 4611686018427387904))), none, none, none]) ⟨rfl, rfl, rfl, rfl, rfl, rfl, rfl, rfl, rfl, rfl, rfl, trivial⟩ (v6 h1fc h2tc h3fc h4tc)
        ·
          have h4fc : dlt (FP.dadd l (FP.ddiv (FP.dsub h l) 4611686018427387904)) h = false := dc_g_lt_f h4f
          refine q_goto (tgt := 322) d267_206 rfl ?_
          exact r_sub (L' := [some (.ref 260), none, none, none, none, none, none, some (.double w), none, some (.double l), none, some (.double h), none, some (.double fl), none, some (.double fh), none, none, none, none, none, none, none, none, none]) ⟨rfl, rfl, rfl, rfl, rfl, rfl, trivial⟩ (v7 h1fc h2tc h3fc h4fc)
    ·
      have h2fc : b = true := bi_1 h2f
      refine q_dload d267_151 rfl ?_
      refine q_dload d267_153 rfl ?_
      refine q_dload d267_155 rfl ?_
      refine q_dsub (v8 h1fc h2fc) d267_157 ?_
      refine q_dload d267_158 rfl ?_
      refine q_dmul (v9 h1fc h2fc) d267_160 ?_
      refine q_dload d267_161 rfl ?_
      refine q_dload d267_163 rfl ?_
      refine q_dsub (v10 h1fc h2fc) d267_165 ?_
      refine q_ddiv (v11 h1fc h2fc) d267_166 ?_
      refine q_dadd (v12 h1fc h2fc) d267_167 ?_
      refine q_dstore (L' := [some (.ref 260), some (.int (nI i)), some (.int (nI c)), none, none, none, none, some (.double w), none, some (.double l), none, some (.double h), none, some (.double fl), none, some (.double fh), none, some (.int (bi b)), some (.int (nI k)), some (.double (FP.dsub h l)), none, some (.double (FP.dadd l (FP.ddiv (FP.dsub h l) 4611686018427387904))), none, some (.double (FP.dadd l (FP.ddiv (FP.dmul (FP.dsub w fl) (FP.dsub h l)) (FP.dsub fh fl)))), none]) d267_168 (Nat.le_of_ble_eq_true rfl) rfl ?_
      refine q_dload d267_170 rfl ?_
      refine q_dload d267_172 rfl ?_
      refine q_dcmp d267_174 ?_
      refine q_if_le (tgt := 190) d267_175 rfl (fun h5t => ?_) (fun h5f => ?_)
      ·
        have h5tc : dgt (FP.dadd l (FP.ddiv (FP.dmul (FP.dsub w fl) (FP.dsub h l)) (FP.dsub fh fl))) l = false := dc_l_le_t h5t
        refine q_dload d267_190 rfl ?_
        refine q_dload d267_192 rfl ?_
        refine q_dcmp d267_194 ?_
        refine q_if_le (tgt := 322) d267_195 rfl (fun h6t => ?_) (fun h6f => ?_)
        ·
          have h6tc : dgt (FP.dadd l (FP.ddiv (FP.dsub h l) 4611686018427387904)) l = false := dc_l_le_t h6t
          exact r_sub (L' := [some (.ref 260), none, none, none, none, none, none, some (.double w), none, some (.double l), none, some (.double h), none, some (.double fl), none, some (.double fh), none, none, none, none, none, none, none, none, none]) ⟨rfl, rfl, rfl, rfl, rfl, rfl, trivial⟩ (v13 h1fc h2fc h5tc h6tc)
        ·
          have h6fc : dgt (FP.dadd l (FP.ddiv (FP.dsub h l) 4611686018427387904)) l = true := dc_l_le_f h6f
          refine q_dload d267_198 rfl ?_
          refine q_dload d267_200 rfl ?_
          refine q_dcmp d267_202 ?_
          refine q_if_lt (tgt := 209) d267_203 rfl (fun h7t => ?_) (fun h7f => ?_)
          ·
            have h7tc : dlt (FP.dadd l (FP.ddiv (FP.dsub h l) 4611686018427387904)) h = true := dc_g_lt_t h7t
            exact r_sub (L' := [some (.ref 260), some (.int (nI i)), some (.int (nI c)), none, none, none, none, some (.double w), none, some (.double l), none, some (.double h), none, some (.double fl), none, some (.double fh), none, none, some (.int (nI k)), some (.double (FP.dsub h l)), none, some (.double (FP.dadd l (FP.ddiv (FP.dsub h l) 4611686018427387904))), none, none, none]) ⟨rfl, rfl, rfl, rfl, rfl, rfl, rfl, rfl, rfl, rfl, rfl, trivial⟩ (v14 h1fc h2fc h5tc h6fc h7tc)
          ·
            have h7fc : dlt (FP.dadd l (FP.ddiv (FP.dsub h l) 4611686018427387904)) h = false := dc_g_lt_f h7f
            refine q_goto (tgt := 322) d267_206 rfl ?_
            exact r_sub (L' := [some (.ref 260), none, none, none, none, none, none, some (.double w), none, some (.double l), none, some (.double h), none, some (.double fl), none, some (.double fh), none, none, none, none, none, none, none, none, none]) ⟨rfl, rfl, rfl, rfl, rfl, rfl, trivial⟩ (v15 h1fc h2fc h5tc h6fc h7fc)
      ·
        have h5fc : dgt (FP.dadd l (FP.ddiv (FP.dmul (FP.dsub w fl) (FP.dsub h l)) (FP.dsub fh fl))) l = true := dc_l_le_f h5f
        refine q_dload d267_178 rfl ?_
        refine q_dload d267_180 rfl ?_
        refine q_dcmp d267_182 ?_
        refine q_if_ge (tgt := 190) d267_183 rfl (fun h8t => ?_) (fun h8f => ?_)
        ·
          have h8tc : dlt (FP.dadd l (FP.ddiv (FP.dmul (FP.dsub w fl) (FP.dsub h l)) (FP.dsub fh fl))) h = false := dc_g_ge_t h8t
          refine q_dload d267_190 rfl ?_
          refine q_dload d267_192 rfl ?_
          refine q_dcmp d267_194 ?_
          refine q_if_le (tgt := 322) d267_195 rfl (fun h9t => ?_) (fun h9f => ?_)
          ·
            have h9tc : dgt (FP.dadd l (FP.ddiv (FP.dsub h l) 4611686018427387904)) l = false := dc_l_le_t h9t
            exact r_sub (L' := [some (.ref 260), none, none, none, none, none, none, some (.double w), none, some (.double l), none, some (.double h), none, some (.double fl), none, some (.double fh), none, none, none, none, none, none, none, none, none]) ⟨rfl, rfl, rfl, rfl, rfl, rfl, trivial⟩ (v16 h1fc h2fc h5fc h8tc h9tc)
          ·
            have h9fc : dgt (FP.dadd l (FP.ddiv (FP.dsub h l) 4611686018427387904)) l = true := dc_l_le_f h9f
            refine q_dload d267_198 rfl ?_
            refine q_dload d267_200 rfl ?_
            refine q_dcmp d267_202 ?_
            refine q_if_lt (tgt := 209) d267_203 rfl (fun h10t => ?_) (fun h10f => ?_)
            ·
              have h10tc : dlt (FP.dadd l (FP.ddiv (FP.dsub h l) 4611686018427387904)) h = true := dc_g_lt_t h10t
              exact r_sub (L' := [some (.ref 260), some (.int (nI i)), some (.int (nI c)), none, none, none, none, some (.double w), none, some (.double l), none, some (.double h), none, some (.double fl), none, some (.double fh), none, none, some (.int (nI k)), some (.double (FP.dsub h l)), none, some (.double (FP.dadd l (FP.ddiv (FP.dsub h l) 4611686018427387904))), none, none, none]) ⟨rfl, rfl, rfl, rfl, rfl, rfl, rfl, rfl, rfl, rfl, rfl, trivial⟩ (v17 h1fc h2fc h5fc h8tc h9fc h10tc)
            ·
              have h10fc : dlt (FP.dadd l (FP.ddiv (FP.dsub h l) 4611686018427387904)) h = false := dc_g_lt_f h10f
              refine q_goto (tgt := 322) d267_206 rfl ?_
              exact r_sub (L' := [some (.ref 260), none, none, none, none, none, none, some (.double w), none, some (.double l), none, some (.double h), none, some (.double fl), none, some (.double fh), none, none, none, none, none, none, none, none, none]) ⟨rfl, rfl, rfl, rfl, rfl, rfl, trivial⟩ (v18 h1fc h2fc h5fc h8tc h9fc h10fc)
        ·
          have h8fc : dlt (FP.dadd l (FP.ddiv (FP.dmul (FP.dsub w fl) (FP.dsub h l)) (FP.dsub fh fl))) h = true := dc_g_ge_f h8f
          refine q_dload d267_186 rfl ?_
          refine q_dstore (L' := [some (.ref 260), some (.int (nI i)), some (.int (nI c)), none, none, none, none, some (.double w), none, some (.double l), none, some (.double h), none, some (.double fl), none, some (.double fh), none, some (.int (bi b)), some (.int (nI k)), some (.double (FP.dsub h l)), none, some (.double (FP.dadd l (FP.ddiv (FP.dmul (FP.dsub w fl) (FP.dsub h l)) (FP.dsub fh fl)))), none, some (.double (FP.dadd l (FP.ddiv (FP.dmul (FP.dsub w fl) (FP.dsub h l)) (FP.dsub fh fl)))), none]) d267_188 (Nat.le_of_ble_eq_true rfl) rfl ?_
          refine q_dload d267_190 rfl ?_
          refine q_dload d267_192 rfl ?_
          refine q_dcmp d267_194 ?_
          refine q_if_le (tgt := 322) d267_195 rfl (fun h11t => ?_) (fun h11f => ?_)
          ·
            have h11tc : dgt (FP.dadd l (FP.ddiv (FP.dmul (FP.dsub w fl) (FP.dsub h l)) (FP.dsub fh fl))) l = false := dc_l_le_t h11t
            exact r_sub (L' := [some (.ref 260), none, none, none, none, none, none, some (.double w), none, some (.double l), none, some (.double h), none, some (.double fl), none, some (.double fh), none, none, none, none, none, none, none, none, none]) ⟨rfl, rfl, rfl, rfl, rfl, rfl, trivial⟩ (v19 h1fc h2fc h5fc h8fc h11tc)
          ·
            have h11fc : dgt (FP.dadd l (FP.ddiv (FP.dmul (FP.dsub w fl) (FP.dsub h l)) (FP.dsub fh fl))) l = true := dc_l_le_f h11f
            refine q_dload d267_198 rfl ?_
            refine q_dload d267_200 rfl ?_
            refine q_dcmp d267_202 ?_
            refine q_if_lt (tgt := 209) d267_203 rfl (fun h12t => ?_) (fun h12f => ?_)
            ·
              have h12tc : dlt (FP.dadd l (FP.ddiv (FP.dmul (FP.dsub w fl) (FP.dsub h l)) (FP.dsub fh fl))) h = true := dc_g_lt_t h12t
              exact r_sub (L' := [some (.ref 260), some (.int (nI i)), some (.int (nI c)), none, none, none, none, some (.double w), none, some (.double l), none, some (.double h), none, some (.double fl), none, some (.double fh), none, none, some (.int (nI k)), some (.double (FP.dsub h l)), none, some (.double (FP.dadd l (FP.ddiv (FP.dmul (FP.dsub w fl) (FP.dsub h l)) (FP.dsub fh fl)))), none, none, none]) ⟨rfl, rfl, rfl, rfl, rfl, rfl, rfl, rfl, rfl, rfl, rfl, trivial⟩ (v20 h1fc h2fc h5fc h8fc h11fc h12tc)
            ·
              have h12fc : dlt (FP.dadd l (FP.ddiv (FP.dmul (FP.dsub w fl) (FP.dsub h l)) (FP.dsub fh fl))) h = false := dc_g_lt_f h12f
              refine q_goto (tgt := 322) d267_206 rfl ?_
              exact r_sub (L' := [some (.ref 260), none, none, none, none, none, none, some (.double w), none, some (.double l), none, some (.double h), none, some (.double fl), none, some (.double fh), none, none, none, none, none, none, none, none, none]) ⟨rfl, rfl, rfl, rfl, rfl, rfl, trivial⟩ (v21 h1fc h2fc h5fc h8fc h11fc h12fc)

set_option maxRecDepth 10000 in
set_option maxHeartbeats 4000000 in
theorem u267i {d : Nat} {I : Nat → Nat → Int32} {D : Nat → Nat → UInt64} {R : Nat → Nat → Option Nat} {Q : j_Po} {i : Nat} {c : Nat} {w : UInt64} {l : UInt64} {h : UInt64} {fl : UInt64} {fh : UInt64} {k : Nat} {z : UInt64} {y : UInt64} {β : Bd} {n : Nat} (hV : BV β) (hd : 110 ≤ d)
    (v1 : RSt β I D)
    (v2 : RIn β I D (env β))
    (v3 : i < 24)
    (v4 : c < 24)
    (v5 : Sm y)
    (v6 : I 260 51 = nI n)
    (v7 : I 260 52 = 0)
    (v8 : ∀ J1 : Nat → Nat → Int32, ∀ E2 : Nat → Nat → UInt64, (FRm I D J1 E2) → (J1 260 51 = nI (n + 1)) → (J1 260 52 = (if (val β (fu (env β) i (0, kp (nI (bK β i)) y)) c).1 = 0 then 0 else 1)) → ((val β (fu (env β) i (0, kp (nI (bK β i)) y)) c).1 = 0 → E2 372 c = (val β (fu (env β) i (0, kp (nI (bK β i)) y)) c).2) → (Sm (E2 372 c)) → j_W 267 d 0 0 0 0 219 [some (.ref 260), some (.int (nI i)), some (.int (nI c)), none, none, none, none, some (.double w), none, some (.double l), none, some (.double h), none, some (.double fl), none, some (.double fh), none, none, some (.int (nI k)), some (.double z), none, some (.double y), none, some (.double (E2 372 c)), none] [] w1 (J1, E2, RR R) Q) : j_W 267 d 0 0 0 0 209 [some (.ref 260), some (.int (nI i)), some (.int (nI c)), none, none, none, none, some (.double w), none, some (.double l), none, some (.double h), none, some (.double fl), none, some (.double fh), none, none, some (.int (nI k)), some (.double z), none, some (.double y), none, none, none] [] w1 (I, D, RR R) Q := by
  refine q_aload_n d267_209 rfl ?_
  refine q_iload_n d267_210 rfl ?_
  refine q_iload_n d267_211 rfl ?_
  refine q_dload d267_212 rfl ?_
  refine q_invV (o := 260) (ci := 10) (av := [.int (nI i), .int (nI c), .double y]) (rest := []) (d' := 101) (mc' := 0) (ms' := 0) d267_214 (cv10_523 267 rfl) rfl (by decide) rfl rfl (by omega) (Nat.le_of_ble_eq_true rfl) (Nat.le_of_ble_eq_true rfl) (lt_w1 rfl) sh260 (Nat.le_refl _) (Nat.le_refl _) ?_
  refine c268 (n := n) (Nat.le_refl 101) hV v1 v2 v3 v4 v5 v6 v7 (fun J1 E2 h3 h4 h5 h6 h7 => ?_)
  show j_W 267 d 0 0 0 0 217 [some (.ref 260), some (.int (nI i)), some (.int (nI c)), none, none, none, none, some (.double w), none, some (.double l), none, some (.double h), none, some (.double fl), none, some (.double fh), none, none, some (.int (nI k)), some (.double z), none, some (.double y), none, none, none] [.double (E2 372 c)] w1 (J1, E2, RR R) Q
  refine q_dstore (L' := [some (.ref 260), some (.int (nI i)), some (.int (nI c)), none, none, none, none, some (.double w), none, some (.double l), none, some (.double h), none, some (.double fl), none, some (.double fh), none, none, some (.int (nI k)), some (.double z), none, some (.double y), none, some (.double (E2 372 c)), none]) d267_217 (Nat.le_of_ble_eq_true rfl) rfl ?_
  exact r_sub (L' := [some (.ref 260), some (.int (nI i)), some (.int (nI c)), none, none, none, none, some (.double w), none, some (.double l), none, some (.double h), none, some (.double fl), none, some (.double fh), none, none, some (.int (nI k)), some (.double z), none, some (.double y), none, some (.double (E2 372 c)), none]) ⟨rfl, rfl, rfl, rfl, rfl, rfl, rfl, rfl, rfl, rfl, rfl, rfl, trivial⟩ (v8 J1 E2 h3 h4 h5 h6 h7)

set_option maxRecDepth 10000 in
set_option maxHeartbeats 4000000 in
theorem u267j {d : Nat} {I : Nat → Nat → Int32} {D : Nat → Nat → UInt64} {R : Nat → Nat → Option Nat} {Q : j_Po} {i : Nat} {c : Nat} {w : UInt64} {l : UInt64} {h : UInt64} {fl : UInt64} {fh : UInt64} {k : Nat} {z : UInt64} {y : UInt64} {fm : UInt64}   (hd : 3 ≤ d)
    (v1 : ((I 260 52) = 0) → (deq fm w = false) → (dlt fm w = false) → (dlt fl w = false) → vf_n64 (FP.dsub h y))
    (v2 : ((I 260 52) = 0) → (deq fm w = false) → (dlt fm w = false) → (dlt fl w = false) → vf_n64 (FP.ddiv z 4611686018427387904))
    (v3 : ((I 260 52) = 0) → (deq fm w = false) → (dlt fm w = false) → (dlt fl w = false) → (dle (FP.dsub h y) (FP.ddiv z 4611686018427387904) = false) → j_W 267 d 0 0 0 0 121 [some (.ref 260), some (.int (nI i)), some (.int (nI c)), none, none, none, none, some (.double w), none, some (.double y), none, some (.double h), none, some (.double fm), none, some (.double fh), none, some (.int 0), some (.int (nI (k + 1))), none, none, none, none, none, none] [] w1 (I, D, RR R) Q)
    (v4 : ((I 260 52) = 0) → (deq fm w = false) → (dlt fm w = false) → (dlt fl w = false) → (dle (FP.dsub h y) (FP.ddiv z 4611686018427387904) = true) → j_W 267 d 0 0 0 0 121 [some (.ref 260), some (.int (nI i)), some (.int (nI c)), none, none, none, none, some (.double w), none, some (.double y), none, some (.double h), none, some (.double fm), none, some (.double fh), none, some (.int 1), some (.int (nI (k + 1))), none, none, none, none, none, none] [] w1 (I, D, RR R) Q)
    (v5 : ((I 260 52) = 0) → (deq fm w = false) → (dlt fm w = false) → (dlt fl w = true) → vf_n64 (FP.dsub y l))
    (v6 : ((I 260 52) = 0) → (deq fm w = false) → (dlt fm w = false) → (dlt fl w = true) → vf_n64 (FP.ddiv z 4611686018427387904))
    (v7 : ((I 260 52) = 0) → (deq fm w = false) → (dlt fm w = false) → (dlt fl w = true) → (dle (FP.dsub y l) (FP.ddiv z 4611686018427387904) = false) → j_W 267 d 0 0 0 0 121 [some (.ref 260), some (.int (nI i)), some (.int (nI c)), none, none, none, none, some (.double w), none, some (.double l), none, some (.double y), none, some (.double fl), none, some (.double fm), none, some (.int 0), some (.int (nI (k + 1))), none, none, none, none, none, none] [] w1 (I, D, RR R) Q)
    (v8 : ((I 260 52) = 0) → (deq fm w = false) → (dlt fm w = false) → (dlt fl w = true) → (dle (FP.dsub y l) (FP.ddiv z 4611686018427387904) = true) → j_W 267 d 0 0 0 0 121 [some (.ref 260), some (.int (nI i)), some (.int (nI c)), none, none, none, none, some (.double w), none, some (.double l), none, some (.double y), none, some (.double fl), none, some (.double fm), none, some (.int 1), some (.int (nI (k + 1))), none, none, none, none, none, none] [] w1 (I, D, RR R) Q)
    (v9 : ((I 260 52) = 0) → (deq fm w = false) → (dlt fm w = true) → (dlt fl w = false) → vf_n64 (FP.dsub y l))
    (v10 : ((I 260 52) = 0) → (deq fm w = false) → (dlt fm w = true) → (dlt fl w = false) → vf_n64 (FP.ddiv z 4611686018427387904))
    (v11 : ((I 260 52) = 0) → (deq fm w = false) → (dlt fm w = true) → (dlt fl w = false) → (dle (FP.dsub y l) (FP.ddiv z 4611686018427387904) = false) → j_W 267 d 0 0 0 0 121 [some (.ref 260), some (.int (nI i)), some (.int (nI c)), none, none, none, none, some (.double w), none, some (.double l), none, some (.double y), none, some (.double fl), none, some (.double fm), none, some (.int 0), some (.int (nI (k + 1))), none, none, none, none, none, none] [] w1 (I, D, RR R) Q)
    (v12 : ((I 260 52) = 0) → (deq fm w = false) → (dlt fm w = true) → (dlt fl w = false) → (dle (FP.dsub y l) (FP.ddiv z 4611686018427387904) = true) → j_W 267 d 0 0 0 0 121 [some (.ref 260), some (.int (nI i)), some (.int (nI c)), none, none, none, none, some (.double w), none, some (.double l), none, some (.double y), none, some (.double fl), none, some (.double fm), none, some (.int 1), some (.int (nI (k + 1))), none, none, none, none, none, none] [] w1 (I, D, RR R) Q)
    (v13 : ((I 260 52) = 0) → (deq fm w = false) → (dlt fm w = true) → (dlt fl w = true) → vf_n64 (FP.dsub h y))
    (v14 : ((I 260 52) = 0) → (deq fm w = false) → (dlt fm w = true) → (dlt fl w = true) → vf_n64 (FP.ddiv z 4611686018427387904))
    (v15 : ((I 260 52) = 0) → (deq fm w = false) → (dlt fm w = true) → (dlt fl w = true) → (dle (FP.dsub h y) (FP.ddiv z 4611686018427387904) = false) → j_W 267 d 0 0 0 0 121 [some (.ref 260), some (.int (nI i)), some (.int (nI c)), none, none, none, none, some (.double w), none, some (.double y), none, some (.double h), none, some (.double fm), none, some (.double fh), none, some (.int 0), some (.int (nI (k + 1))), none, none, none, none, none, none] [] w1 (I, D, RR R) Q)
    (v16 : ((I 260 52) = 0) → (deq fm w = false) → (dlt fm w = true) → (dlt fl w = true) → (dle (FP.dsub h y) (FP.ddiv z 4611686018427387904) = true) → j_W 267 d 0 0 0 0 121 [some (.ref 260), some (.int (nI i)), some (.int (nI c)), none, none, none, none, some (.double w), none, some (.double y), none, some (.double h), none, some (.double fm), none, some (.double fh), none, some (.int 1), some (.int (nI (k + 1))), none, none, none, none, none, none] [] w1 (I, D, RR R) Q)
    (v17 : ((I 260 52) = 0) → (deq fm w = true) → Q (some (.int 1)) w1 (I, (j_u (j_u D 260 53 y) 260 54 fm), RR R))
    (v18 : (¬ (I 260 52) = 0) → Q (some (.int 0)) w1 (I, D, RR R)) : j_W 267 d 0 0 0 0 219 [some (.ref 260), some (.int (nI i)), some (.int (nI c)), none, none, none, none, some (.double w), none, some (.double l), none, some (.double h), none, some (.double fl), none, some (.double fh), none, none, some (.int (nI k)), some (.double z), none, some (.double y), none, some (.double fm), none] [] w1 (I, D, RR R) Q := by
  refine q_aload_n d267_219 rfl ?_
  refine q_getI d267_220 (fs10_514 267 rfl) rfl (lt_w1 rfl) sh260 ?_
  refine q_if_eq (tgt := 228) d267_223 rfl (fun h1t => ?_) (fun h1f => ?_)
  ·
    refine q_dload d267_228 rfl ?_
    refine q_dload d267_230 rfl ?_
    refine q_dcmp d267_232 ?_
    refine q_if_ne (tgt := 246) d267_233 rfl (fun h2t => ?_) (fun h2f => ?_)
    ·
      have h2tc : deq fm w = false := dc_l_ne_t h2t
      refine q_dload d267_246 rfl ?_
      refine q_dload d267_248 rfl ?_
      refine q_dcmp d267_250 ?_
      refine q_if_ge (tgt := 258) d267_251 rfl (fun h3t => ?_) (fun h3f => ?_)
      ·
        have h3tc : dlt fm w = false := dc_g_ge_t h3t
        refine q_iconst (v := 0) (by decide) d267_258 ?_
        refine q_dload d267_259 rfl ?_
        refine q_dload d267_261 rfl ?_
        refine q_dcmp d267_263 ?_
        refine q_if_ge (tgt := 271) d267_264 rfl (fun h4t => ?_) (fun h4f => ?_)
        ·
          have h4tc : dlt fl w = false := dc_g_ge_t h4t
          refine q_iconst (v := 0) (by decide) d267_271 ?_
          refine q_icmp_ne (tgt := 286) d267_272 rfl (fun h => absurd h (by decide)) (fun _ => ?_)
          refine q_dload d267_275 rfl ?_
          refine q_dstore (L' := [some (.ref 260), some (.int (nI i)), some (.int (nI c)), none, none, none, none, some (.double w), none, some (.double y), none, some (.double h), none, some (.double fl), none, some (.double fh), none, none, some (.int (nI k)), some (.double z), none, some (.double y), none, some (.double fm), none]) d267_277 (Nat.le_of_ble_eq_true rfl) rfl ?_
          refine q_dload d267_279 rfl ?_
          refine q_dstore (L' := [some (.ref 260), some (.int (nI i)), some (.int (nI c)), none, none, none, none, some (.double w), none, some (.double y), none, some (.double h), none, some (.double fm), none, some (.double fh), none, none, some (.int (nI k)), some (.double z), none, some (.double y), none, some (.double fm), none]) d267_281 (Nat.le_of_ble_eq_true rfl) rfl ?_
          refine q_goto (tgt := 294) d267_283 rfl ?_
          refine q_dload d267_294 rfl ?_
          refine q_dload d267_296 rfl ?_
          refine q_dsub (v1 h1t h2tc h3tc h4tc) d267_298 ?_
          refine q_dload d267_299 rfl ?_
          refine q_ldcD (v := 4611686018427387904) d267_301 (kc10_531 267 rfl) ?_
          refine q_ddiv (v2 h1t h2tc h3tc h4tc) d267_304 ?_
          refine q_dcmp d267_305 ?_
          refine q_if_gt (tgt := 313) d267_306 rfl (fun h5t => ?_) (fun h5f => ?_)
          ·
            have h5tc : dle (FP.dsub h y) (FP.ddiv z 4611686018427387904) = false := dc_g_gt_t h5t
            refine q_iconst (v := 0) (by decide) d267_313 ?_
            refine q_istore (L' := [some (.ref 260), some (.int (nI i)), some (.int (nI c)), none, none, none, none, some (.double w), none, some (.double y), none, some (.double h), none, some (.double fm), none, some (.double fh), none, some (.int 0), some (.int (nI k)), some (.double z), none, some (.double y), none, some (.double fm), none]) d267_314 (Nat.le_of_ble_eq_true rfl) rfl ?_
            refine q_iinc (L' := [some (.ref 260), some (.int (nI i)), some (.int (nI c)), none, none, none, none, some (.double w), none, some (.double y), none, some (.double h), none, some (.double fm), none, some (.double fh), none, some (.int 0), some (.int (nI (k + 1))), some (.double z), none, some (.double y), none, some (.double fm), none]) (v := (nI (k + 1))) d267_316 rfl (nI_inc _) rfl ?_
            refine q_goto (tgt := 121) d267_319 rfl ?_
            exact r_sub (L' := [some (.ref 260), some (.int (nI i)), some (.int (nI c)), none, none, none, none, some (.double w), none, some (.double y), none, some (.double h), none, some (.double fm), none, some (.double fh), none, some (.int 0), some (.int (nI (k + 1))), none, none, none, none, none, none]) ⟨rfl, rfl, rfl, rfl, rfl, rfl, rfl, rfl, rfl, rfl, trivial⟩ (v3 h1t h2tc h3tc h4tc h5tc)
          ·
            have h5fc : dle (FP.dsub h y) (FP.ddiv z 4611686018427387904) = true := dc_g_gt_f h5f
            refine q_iconst (v := 1) (by decide) d267_309 ?_
            refine q_goto (tgt := 314) d267_310 rfl ?_
            refine q_istore (L' := [some (.ref 260), some (.int (nI i)), some (.int (nI c)), none, none, none, none, some (.double w), none, some (.double y), none, some (.double h), none, some (.double fm), none, some (.double fh), none, some (.int 1), some (.int (nI k)), some (.double z), none, some (.double y), none, some (.double fm), none]) d267_314 (Nat.le_of_ble_eq_true rfl) rfl ?_
            refine q_iinc (L' := [some (.ref 260), some (.int (nI i)), some (.int (nI c)), none, none, none, none, some (.double w), none, some (.double y), none, some (.double h), none, some (.double fm), none, some (.double fh), none, some (.int 1), some (.int (nI (k + 1))), some (.double z), none, some (.double y), none, some (.double fm), none]) (v := (nI (k + 1))) d267_316 rfl (nI_inc _) rfl ?_
            refine q_goto (tgt := 121) d267_319 rfl ?_
            exact r_sub (L' := [some (.ref 260), some (.int (nI i)), some (.int (nI c)), none, none, none, none, some (.double w), none, some (.double y), none, some (.double h), none, some (.double fm), none, some (.double fh), none, some (.int 1), some (.int (nI (k + 1))), none, none, none, none, none, none]) ⟨rfl, rfl, rfl, rfl, rfl, rfl, rfl, rfl, rfl, rfl, trivial⟩ (v4 h1t h2tc h3tc h4tc h5fc)
        ·
          have h4fc : dlt fl w = true := dc_g_ge_f h4f
          refine q_iconst (v := 1) (by decide) d267_267 ?_
          refine q_goto (tgt := 272) d267_268 rfl ?_
          refine q_icmp_ne (tgt := 286) d267_272 rfl (fun _ => ?_) (fun h => absurd h (by decide))
          refine q_dload d267_286 rfl ?_
          refine q_dstore (L' := [some (.ref 260), some (.int (nI i)), some (.int (nI c)), none, none, none, none, some (.double w), none, some (.double l), none, some (.double y), none, some (.double fl), none, some (.double fh), none, none, some (.int (nI k)), some (.double z), none, some (.double y), none, some (.double fm), none]) d267_288 (Nat.le_of_ble_eq_true rfl) rfl ?_
          refine q_dload d267_290 rfl ?_
          refine q_dstore (L' := [some (.ref 260), some (.int (nI i)), some (.int (nI c)), none, none, none, none, some (.double w), none, some (.double l), none, some (.double y), none, some (.double fl), none, some (.double fm), none, none, some (.int (nI k)), some (.double z), none, some (.double y), none, some (.double fm), none]) d267_292 (Nat.le_of_ble_eq_true rfl) rfl ?_
          refine q_dload d267_294 rfl ?_
          refine q_dload d267_296 rfl ?_
          refine q_dsub (v5 h1t h2tc h3tc h4fc) d267_298 ?_
          refine q_dload d267_299 rfl ?_
          refine q_ldcD (v := 4611686018427387904) d267_301 (kc10_531 267 rfl) ?_
          refine q_ddiv (v6 h1t h2tc h3tc h4fc) d267_304 ?_
          refine q_dcmp d267_305 ?_
          refine q_if_gt (tgt := 313) d267_306 rfl (fun h6t => ?_) (fun h6f => ?_)
          ·
            have h6tc : dle (FP.dsub y l) (FP.ddiv z 4611686018427387904) = false := dc_g_gt_t h6t
            refine q_iconst (v := 0) (by decide) d267_313 ?_
            refine q_istore (L' := [some (.ref 260), some (.int (nI i)), some (.int (nI c)), none, none, none, none, some (.double w), none, some (.double l), none, some (.double y), none, some (.double fl), none, some (.double fm), none, some (.int 0), some (.int (nI k)), some (.double z), none, some (.double y), none, some (.double fm), none]) d267_314 (Nat.le_of_ble_eq_true rfl) rfl ?_
            refine q_iinc (L' := [some (.ref 260), some (.int (nI i)), some (.int (nI c)), none, none, none, none, some (.double w), none, some (.double l), none, some (.double y), none, some (.double fl), none, some (.double fm), none, some (.int 0), some (.int (nI (k + 1))), some (.double z), none, some (.double y), none, some (.double fm), none]) (v := (nI (k + 1))) d267_316 rfl (nI_inc _) rfl ?_
            refine q_goto (tgt := 121) d267_319 rfl ?_
            exact r_sub (L' := [some (.ref 260), some (.int (nI i)), some (.int (nI c)), none, none, none, none, some (.double w), none, some (.double l), none, some (.double y), none, some (.double fl), none, some (.double fm), none, some (.int 0), some (.int (nI (k + 1))), none, none, none, none, none, none]) ⟨rfl, rfl, rfl, rfl, rfl, rfl, rfl, rfl, rfl, rfl, trivial⟩ (v7 h1t h2tc h3tc h4fc h6tc)
          ·
            have h6fc : dle (FP.dsub y l) (FP.ddiv z 4611686018427387904) = true := dc_g_gt_f h6f
            refine q_iconst (v := 1) (by decide) d267_309 ?_
            refine q_goto (tgt := 314) d267_310 rfl ?_
            refine q_istore (L' := [some (.ref 260), some (.int (nI i)), some (.int (nI c)), none, none, none, none, some (.double w), none, some (.double l), none, some (.double y), none, some (.double fl), none, some (.double fm), none, some (.int 1), some (.int (nI k)), some (.double z), none, some (.double y), none, some (.double fm), none]) d267_314 (Nat.le_of_ble_eq_true rfl) rfl ?_
            refine q_iinc (L' := [some (.ref 260), some (.int (nI i)), some (.int (nI c)), none, none, none, none, some (.double w), none, some (.double l), none, some (.double y), none, some (.double fl), none, some (.double fm), none, some (.int 1), some (.int (nI (k + 1))), some (.double z), none, some (.double y), none, some (.double fm), none]) (v := (nI (k + 1))) d267_316 rfl (nI_inc _) rfl ?_
            refine q_goto (tgt := 121) d267_319 rfl ?_
            exact r_sub (L' := [some (.ref 260), some (.int (nI i)), some (.int (nI c)), none, none, none, none, some (.double w), none, some (.double l), none, some (.double y), none, some (.double fl), none, some (.double fm), none, some (.int 1), some (.int (nI (k + 1))), none, none, none, none, none, none]) ⟨rfl, rfl, rfl, rfl, rfl, rfl, rfl, rfl, rfl, rfl, trivial⟩ (v8 h1t h2tc h3tc h4fc h6fc)
      ·
        have h3fc : dlt fm w = true := dc_g_ge_f h3f
        refine q_iconst (v := 1) (by decide) d267_254 ?_
        refine q_goto (tgt := 259) d267_255 rfl ?_
        refine q_dload d267_259 rfl ?_
        refine q_dload d267_261 rfl ?_
        refine q_dcmp d267_263 ?_
        refine q_if_ge (tgt := 271) d267_264 rfl (fun h7t => ?_) (fun h7f => ?_)
        ·
          have h7tc : dlt fl w = false := dc_g_ge_t h7t
          refine q_iconst (v := 0) (by decide) d267_271 ?_
          refine q_icmp_ne (tgt := 286) d267_272 rfl (fun _ => ?_) (fun h => absurd h (by decide))
          refine q_dload d267_286 rfl ?_
          refine q_dstore (L' := [some (.ref 260), some (.int (nI i)), some (.int (nI c)), none, none, none, none, some (.double w), none, some (.double l), none, some (.double y), none, some (.double fl), none, some (.double fh), none, none, some (.int (nI k)), some (.double z), none, some (.double y), none, some (.double fm), none]) d267_288 (Nat.le_of_ble_eq_true rfl) rfl ?_
          refine q_dload d267_290 rfl ?_
          refine q_dstore (L' := [some (.ref 260), some (.int (nI i)), some (.int (nI c)), none, none, none, none, some (.double w), none, some (.double l), none, some (.double y), none, some (.double fl), none, some (.double fm), none, none, some (.int (nI k)), some (.double z), none, some (.double y), none, some (.double fm), none]) d267_292 (Nat.le_of_ble_eq_true rfl) rfl ?_
          refine q_dload d267_294 rfl ?_
          refine q_dload d267_296 rfl ?_
          refine q_dsub (v9 h1t h2tc h3fc h7tc) d267_298 ?_
          refine q_dload d267_299 rfl ?_
          refine q_ldcD (v := 4611686018427387904) d267_301 (kc10_531 267 rfl) ?_
          refine q_ddiv (v10 h1t h2tc h3fc h7tc) d267_304 ?_
          refine q_dcmp d267_305 ?_
          refine q_if_gt (tgt := 313) d267_306 rfl (fun h8t => ?_) (fun h8f => ?_)
          ·
            have h8tc : dle (FP.dsub y l) (FP.ddiv z 4611686018427387904) = false := dc_g_gt_t h8t
            refine q_iconst (v := 0) (by decide) d267_313 ?_
            refine q_istore (L' := [some (.ref 260), some (.int (nI i)), some (.int (nI c)), none, none, none, none, some (.double w), none, some (.double l), none, some (.double y), none, some (.double fl), none, some (.double fm), none, some (.int 0), some (.int (nI k)), some (.double z), none, some (.double y), none, some (.double fm), none]) d267_314 (Nat.le_of_ble_eq_true rfl) rfl ?_
            refine q_iinc (L' := [some (.ref 260), some (.int (nI i)), some (.int (nI c)), none, none, none, none, some (.double w), none, some (.double l), none, some (.double y), none, some (.double fl), none, some (.double fm), none, some (.int 0), some (.int (nI (k + 1))), some (.double z), none, some (.double y), none, some (.double fm), none]) (v := (nI (k + 1))) d267_316 rfl (nI_inc _) rfl ?_
            refine q_goto (tgt := 121) d267_319 rfl ?_
            exact r_sub (L' := [some (.ref 260), some (.int (nI i)), some (.int (nI c)), none, none, none, none, some (.double w), none, some (.double l), none, some (.double y), none, some (.double fl), none, some (.double fm), none, some (.int 0), some (.int (nI (k + 1))), none, none, none, none, none, none]) ⟨rfl, rfl, rfl, rfl, rfl, rfl, rfl, rfl, rfl, rfl, trivial⟩ (v11 h1t h2tc h3fc h7tc h8tc)
          ·
            have h8fc : dle (FP.dsub y l) (FP.ddiv z 4611686018427387904) = true := dc_g_gt_f h8f
            refine q_iconst (v := 1) (by decide) d267_309 ?_
            refine q_goto (tgt := 314) d267_310 rfl ?_
            refine q_istore (L' := [some (.ref 260), some (.int (nI i)), some (.int (nI c)), none, none, none, none, some (.double w), none, some (.double l), none, some (.double y), none, some (.double fl), none, some (.double fm), none, some (.int 1), some (.int (nI k)), some (.double z), none, some (.double y), none, some (.double fm), none]) d267_314 (Nat.le_of_ble_eq_true rfl) rfl ?_
            refine q_iinc (L' := [some (.ref 260), some (.int (nI i)), some (.int (nI c)), none, none, none, none, some (.double w), none, some (.double l), none, some (.double y), none, some (.double fl), none, some (.double fm), none, some (.int 1), some (.int (nI (k + 1))), some (.double z), none, some (.double y), none, some (.double fm), none]) (v := (nI (k + 1))) d267_316 rfl (nI_inc _) rfl ?_
            refine q_goto (tgt := 121) d267_319 rfl ?_
            exact r_sub (L' := [some (.ref 260), some (.int (nI i)), some (.int (nI c)), none, none, none, none, some (.double w), none, some (.double l), none, some (.double y), none, some (.double fl), none, some (.double fm), none, some (.int 1), some (.int (nI (k + 1))), none, none, none, none, none, none]) ⟨rfl, rfl, rfl, rfl, rfl, rfl, rfl, rfl, rfl, rfl, trivial⟩ (v12 h1t h2tc h3fc h7tc h8fc)
        ·
          have h7fc : dlt fl w = true := dc_g_ge_f h7f
          refine q_iconst (v := 1) (by decide) d267_267 ?_
          refine q_goto (tgt := 272) d267_268 rfl ?_
          refine q_icmp_ne (tgt := 286) d267_272 rfl (fun h => absurd h (by decide)) (fun _ => ?_)
          refine q_dload d267_275 rfl ?_
          refine q_dstore (L' := [some (.ref 260), some (.int (nI i)), some (.int (nI c)), none, none, none, none, some (.double w), none, some (.double y), none, some (.double h), none, some (.double fl), none, some (.double fh), none, none, some (.int (nI k)), some (.double z), none, some (.double y), none, some (.double fm), none]) d267_277 (Nat.le_of_ble_eq_true rfl) rfl ?_
          refine q_dload d267_279 rfl ?_
          refine q_dstore (L' := [some (.ref 260), some (.int (nI i)), some (.int (nI c)), none, none, none, none, some (.double w), none, some (.double y), none, some (.double h), none, some (.double fm), none, some (.double fh), none, none, some (.int (nI k)), some (.double z), none, some (.double y), none, some (.double fm), none]) d267_281 (Nat.le_of_ble_eq_true rfl) rfl ?_
          refine q_goto (tgt := 294) d267_283 rfl ?_
          refine q_dload d267_294 rfl ?_
          refine q_dload d267_296 rfl ?_
          refine q_dsub (v13 h1t h2tc h3fc h7fc) d267_298 ?_
          refine q_dload d267_299 rfl ?_
          refine q_ldcD (v := 4611686018427387904) d267_301 (kc10_531 267 rfl) ?_
          refine q_ddiv (v14 h1t h2tc h3fc h7fc) d267_304 ?_
          refine q_dcmp d267_305 ?_
          refine q_if_gt (tgt := 313) d267_306 rfl (fun h9t => ?_) (fun h9f => ?_)
          ·
            have h9tc : dle (FP.dsub h y) (FP.ddiv z 4611686018427387904) = false := dc_g_gt_t h9t
            refine q_iconst (v := 0) (by decide) d267_313 ?_
            refine q_istore (L' := [some (.ref 260), some (.int (nI i)), some (.int (nI c)), none, none, none, none, some (.double w), none, some (.double y), none, some (.double h), none, some (.double fm), none, some (.double fh), none, some (.int 0), some (.int (nI k)), some (.double z), none, some (.double y), none, some (.double fm), none]) d267_314 (Nat.le_of_ble_eq_true rfl) rfl ?_
            refine q_iinc (L' := [some (.ref 260), some (.int (nI i)), some (.int (nI c)), none, none, none, none, some (.double w), none, some (.double y), none, some (.double h), none, some (.double fm), none, some (.double fh), none, some (.int 0), some (.int (nI (k + 1))), some (.double z), none, some (.double y), none, some (.double fm), none]) (v := (nI (k + 1))) d267_316 rfl (nI_inc _) rfl ?_
            refine q_goto (tgt := 121) d267_319 rfl ?_
            exact r_sub (L' := [some (.ref 260), some (.int (nI i)), some (.int (nI c)), none, none, none, none, some (.double w), none, some (.double y), none, some (.double h), none, some (.double fm), none, some (.double fh), none, some (.int 0), some (.int (nI (k + 1))), none, none, none, none, none, none]) ⟨rfl, rfl, rfl, rfl, rfl, rfl, rfl, rfl, rfl, rfl, trivial⟩ (v15 h1t h2tc h3fc h7fc h9tc)
          ·
            have h9fc : dle (FP.dsub h y) (FP.ddiv z 4611686018427387904) = true := dc_g_gt_f h9f
            refine q_iconst (v := 1) (by decide) d267_309 ?_
            refine q_goto (tgt := 314) d267_310 rfl ?_
            refine q_istore (L' := [some (.ref 260), some (.int (nI i)), some (.int (nI c)), none, none, none, none, some (.double w), none, some (.double y), none, some (.double h), none, some (.double fm), none, some (.double fh), none, some (.int 1), some (.int (nI k)), some (.double z), none, some (.double y), none, some (.double fm), none]) d267_314 (Nat.le_of_ble_eq_true rfl) rfl ?_
            refine q_iinc (L' := [some (.ref 260), some (.int (nI i)), some (.int (nI c)), none, none, none, none, some (.double w), none, some (.double y), none, some (.double h), none, some (.double fm), none, some (.double fh), none, some (.int 1), some (.int (nI (k + 1))), some (.double z), none, some (.double y), none, some (.double fm), none]) (v := (nI (k + 1))) d267_316 rfl (nI_inc _) rfl ?_
            refine q_goto (tgt := 121) d267_319 rfl ?_
            exact r_sub (L' := [some (.ref 260), some (.int (nI i)), some (.int (nI c)), none, none, none, none, some (.double w), none, some (.double y), none, some (.double h), none, some (.double fm), none, some (.double fh), none, some (.int 1), some (.int (nI (k + 1))), none, none, none, none, none, none]) ⟨rfl, rfl, rfl, rfl, rfl, rfl, rfl, rfl, rfl, rfl, trivial⟩ (v16 h1t h2tc h3fc h7fc h9fc)
    ·
      have h2fc : deq fm w = true := dc_l_ne_f h2f
      refine q_aload_n d267_236 rfl ?_
      refine q_dload d267_237 rfl ?_
      refine q_dload d267_239 rfl ?_
      refine q_invV (o := 260) (ci := 10) (av := [.double y, .double fm]) (rest := []) (d' := 0) (mc' := 0) (ms' := 0) d267_241 (cv10_527 267 rfl) rfl (by decide) rfl rfl (by omega) (Nat.le_of_ble_eq_true rfl) (Nat.le_of_ble_eq_true rfl) (lt_w1 rfl) sh260 (Nat.le_refl _) (Nat.le_refl _) ?_
      refine s269   (Nat.le_refl _) ?_
      show j_W 267 d 0 0 0 0 244 [some (.ref 260), some (.int (nI i)), some (.int (nI c)), none, none, none, none, some (.double w), none, some (.double l), none, some (.double h), none, some (.double fl), none, some (.double fh), none, none, some (.int (nI k)), some (.double z), none, some (.double y), none, some (.double fm), none] [] w1 (I, (j_u (j_u D 260 53 y) 260 54 fm), RR R) Q
      refine q_iconst (v := 1) (by decide) d267_244 ?_
      exact q_zret d267_245 rfl (Or.inr rfl) (Nat.le_refl _) (Nat.le_refl _) (v17 h1t h2fc)
  ·
    refine q_iconst (v := 0) (by decide) d267_226 ?_
    exact q_zret d267_227 rfl (Or.inl rfl) (Nat.le_refl _) (Nat.le_refl _) (v18 h1f)

set_option maxRecDepth 10000 in
set_option maxHeartbeats 4000000 in
theorem u267k {d : Nat} {I : Nat → Nat → Int32} {D : Nat → Nat → UInt64} {R : Nat → Nat → Option Nat} {Q : j_Po} {w : UInt64} {l : UInt64} {h : UInt64} {fl : UInt64} {fh : UInt64}   (hd : 3 ≤ d)
    (v1 : vf_n64 (FP.dsub fl w))
    (v2 : (FP.dsub fl w) &&& 0x7fffffffffffffff ≤ 0x7ff0000000000000)
    (v3 : vf_n64 (FP.dsub fh w))
    (v4 : (FP.dsub fh w) &&& 0x7fffffffffffffff ≤ 0x7ff0000000000000)
    (v5 : (dle ((FP.dsub fl w) &&& 0x7fffffffffffffff) ((FP.dsub fh w) &&& 0x7fffffffffffffff) = false) → Q (some (.int 1)) w1 (I, (j_u (j_u D 260 53 h) 260 54 fh), RR R))
    (v6 : (dle ((FP.dsub fl w) &&& 0x7fffffffffffffff) ((FP.dsub fh w) &&& 0x7fffffffffffffff) = true) → Q (some (.int 1)) w1 (I, (j_u (j_u D 260 53 l) 260 54 fl), RR R)) : j_W 267 d 0 0 0 0 322 [some (.ref 260), none, none, none, none, none, none, some (.double w), none, some (.double l), none, some (.double h), none, some (.double fl), none, some (.double fh), none, none, none, none, none, none, none, none, none] [] w1 (I, D, RR R) Q := by
  refine q_dload d267_322 rfl ?_
  refine q_dload d267_324 rfl ?_
  refine q_dsub v1 d267_326 ?_
  refine q_dabs (b0 := prog_15_method_64_code) d267_327 (j_i8 51 rfl) (j_i8 53 rfl) (j_i8 52 rfl) (j_i1 13 rfl) v2 (by omega) (Nat.le_of_ble_eq_true rfl) ?_
  refine q_dload d267_330 rfl ?_
  refine q_dload d267_332 rfl ?_
  refine q_dsub v3 d267_334 ?_
  refine q_dabs (b0 := prog_15_method_64_code) d267_335 (j_i8 51 rfl) (j_i8 53 rfl) (j_i8 52 rfl) (j_i1 13 rfl) v4 (by omega) (Nat.le_of_ble_eq_true rfl) ?_
  refine q_dcmp d267_338 ?_
  refine q_if_gt (tgt := 346) d267_339 rfl (fun h1t => ?_) (fun h1f => ?_)
  ·
    have h1tc : dle ((FP.dsub fl w) &&& 0x7fffffffffffffff) ((FP.dsub fh w) &&& 0x7fffffffffffffff) = false := dc_g_gt_t h1t
    refine q_iconst (v := 0) (by decide) d267_346 ?_
    refine q_istore (L' := [some (.ref 260), none, none, none, none, none, none, some (.double w), none, some (.double l), none, some (.double h), none, some (.double fl), none, some (.double fh), none, none, some (.int 0), none, none, none, none, none, none]) d267_347 (Nat.le_of_ble_eq_true rfl) rfl ?_
    refine q_aload_n d267_349 rfl ?_
    refine q_iload d267_350 rfl ?_
    refine q_if_eq (tgt := 360) d267_352 rfl (fun _ => ?_) (fun h => absurd h (by decide))
    refine q_dload d267_360 rfl ?_
    refine q_iload d267_362 rfl ?_
    refine q_if_eq (tgt := 372) d267_364 rfl (fun _ => ?_) (fun h => absurd h (by decide))
    refine q_dload d267_372 rfl ?_
    refine q_invV (o := 260) (ci := 10) (av := [.double h, .double fh]) (rest := []) (d' := 0) (mc' := 0) (ms' := 0) d267_374 (cv10_527 267 rfl) rfl (by decide) rfl rfl (by omega) (Nat.le_of_ble_eq_true rfl) (Nat.le_of_ble_eq_true rfl) (lt_w1 rfl) sh260 (Nat.le_refl _) (Nat.le_refl _) ?_
    refine s269   (Nat.le_refl _) ?_
    show j_W 267 d 0 0 0 0 377 [some (.ref 260), none, none, none, none, none, none, some (.double w), none, some (.double l), none, some (.double h), none, some (.double fl), none, some (.double fh), none, none, some (.int 0), none, none, none, none, none, none] [] w1 (I, (j_u (j_u D 260 53 h) 260 54 fh), RR R) Q
    refine q_iconst (v := 1) (by decide) d267_377 ?_
    exact q_zret d267_378 rfl (Or.inr rfl) (Nat.le_refl _) (Nat.le_refl _) (v5 h1tc)
  ·
    have h1fc : dle ((FP.dsub fl w) &&& 0x7fffffffffffffff) ((FP.dsub fh w) &&& 0x7fffffffffffffff) = true := dc_g_gt_f h1f
    refine q_iconst (v := 1) (by decide) d267_342 ?_
    refine q_goto (tgt := 347) d267_343 rfl ?_
    refine q_istore (L' := [some (.ref 260), none, none, none, none, none, none, some (.double w), none, some (.double l), none, some (.double h), none, some (.double fl), none, some (.double fh), none, none, some (.int 1), none, none, none, none, none, none]) d267_347 (Nat.le_of_ble_eq_true rfl) rfl ?_
    refine q_aload_n d267_349 rfl ?_
    refine q_iload d267_350 rfl ?_
    refine q_if_eq (tgt := 360) d267_352 rfl (fun h => absurd h (by decide)) (fun _ => ?_)
    refine q_dload d267_355 rfl ?_
    refine q_goto (tgt := 362) d267_357 rfl ?_
    refine q_iload d267_362 rfl ?_
    refine q_if_eq (tgt := 372) d267_364 rfl (fun h => absurd h (by decide)) (fun _ => ?_)
    refine q_dload d267_367 rfl ?_
    refine q_goto (tgt := 374) d267_369 rfl ?_
    refine q_invV (o := 260) (ci := 10) (av := [.double l, .double fl]) (rest := []) (d' := 0) (mc' := 0) (ms' := 0) d267_374 (cv10_527 267 rfl) rfl (by decide) rfl rfl (by omega) (Nat.le_of_ble_eq_true rfl) (Nat.le_of_ble_eq_true rfl) (lt_w1 rfl) sh260 (Nat.le_refl _) (Nat.le_refl _) ?_
    refine s269   (Nat.le_refl _) ?_
    show j_W 267 d 0 0 0 0 377 [some (.ref 260), none, none, none, none, none, none, some (.double w), none, some (.double l), none, some (.double h), none, some (.double fl), none, some (.double fh), none, none, some (.int 1), none, none, none, none, none, none] [] w1 (I, (j_u (j_u D 260 53 l) 260 54 fl), RR R) Q
    refine q_iconst (v := 1) (by decide) d267_377 ?_
    exact q_zret d267_378 rfl (Or.inr rfl) (Nat.le_refl _) (Nat.le_refl _) (v6 h1fc)

set_option maxRecDepth 10000 in
set_option maxHeartbeats 4000000 in
theorem u265r {d : Nat} {I : Nat → Nat → Int32} {D : Nat → Nat → UInt64} {R : Nat → Nat → Option Nat} {Q : j_Po} {a : Int32} {b : Int32} {e : Int32} {f : Int32} {g : Int32} {p : Int32}   (hd : 5 ≤ d)
    (v1 : ∀ k1 : Nat, (k1 < 24) → (a = nI k1) → ∀ k2 : Nat, (k2 < 24) → (b = nI k2) → ((¬ e < (-80000 : Int32) ∧ ¬ (80000 : Int32) < e)) → ((¬ f < (-80000 : Int32) ∧ ¬ (80000 : Int32) < f)) → (f ≤ e) → Q (some (.long (-2))) w1 (I, D, RR R))
    (v2 : ∀ k1 : Nat, (k1 < 24) → (a = nI k1) → ∀ k2 : Nat, (k2 < 24) → (b = nI k2) → ((¬ e < (-80000 : Int32) ∧ ¬ (80000 : Int32) < e)) → ((¬ f < (-80000 : Int32) ∧ ¬ (80000 : Int32) < f)) → (¬ f ≤ e) → ((¬ g < (-80000 : Int32) ∧ ¬ (80000 : Int32) < g)) → ((¬ p < (0 : Int32) ∧ ¬ (2 : Int32) < p)) → (¬ (I 264 k1) = 0) → Q (some (.long (-3))) w1 (I, D, RR R))
    (v3 : ∀ k1 : Nat, (k1 < 24) → (a = nI k1) → ∀ k2 : Nat, (k2 < 24) → (b = nI k2) → ((¬ e < (-80000 : Int32) ∧ ¬ (80000 : Int32) < e)) → ((¬ f < (-80000 : Int32) ∧ ¬ (80000 : Int32) < f)) → (¬ f ≤ e) → ((¬ g < (-80000 : Int32) ∧ ¬ (80000 : Int32) < g)) → ((¬ p < (0 : Int32) ∧ ¬ (2 : Int32) < p)) → ((I 264 k1) = 0) → j_W 265 d 0 0 0 0 69 [some (.ref 260), some (.int (nI k1)), some (.int (nI k2)), some (.int e), some (.int f), some (.int g), some (.int p), none] [] w1 (I, D, RR R) Q)
    (v4 : ∀ k1 : Nat, (k1 < 24) → (a = nI k1) → ∀ k2 : Nat, (k2 < 24) → (b = nI k2) → ((¬ e < (-80000 : Int32) ∧ ¬ (80000 : Int32) < e)) → ((¬ f < (-80000 : Int32) ∧ ¬ (80000 : Int32) < f)) → (¬ f ≤ e) → ((¬ g < (-80000 : Int32) ∧ ¬ (80000 : Int32) < g)) → (¬ ((¬ p < (0 : Int32) ∧ ¬ (2 : Int32) < p))) → Q (some (.long (-2))) w1 (I, D, RR R))
    (v5 : ∀ k1 : Nat, (k1 < 24) → (a = nI k1) → ∀ k2 : Nat, (k2 < 24) → (b = nI k2) → ((¬ e < (-80000 : Int32) ∧ ¬ (80000 : Int32) < e)) → ((¬ f < (-80000 : Int32) ∧ ¬ (80000 : Int32) < f)) → (¬ f ≤ e) → (¬ ((¬ g < (-80000 : Int32) ∧ ¬ (80000 : Int32) < g))) → Q (some (.long (-2))) w1 (I, D, RR R))
    (v6 : ∀ k1 : Nat, (k1 < 24) → (a = nI k1) → ∀ k2 : Nat, (k2 < 24) → (b = nI k2) → ((¬ e < (-80000 : Int32) ∧ ¬ (80000 : Int32) < e)) → (¬ ((¬ f < (-80000 : Int32) ∧ ¬ (80000 : Int32) < f))) → Q (some (.long (-2))) w1 (I, D, RR R))
    (v7 : ∀ k1 : Nat, (k1 < 24) → (a = nI k1) → ∀ k2 : Nat, (k2 < 24) → (b = nI k2) → (¬ ((¬ e < (-80000 : Int32) ∧ ¬ (80000 : Int32) < e))) → Q (some (.long (-2))) w1 (I, D, RR R))
    (v8 : ∀ k1 : Nat, (k1 < 24) → (a = nI k1) → (¬ (∃ k : Nat, k < 24 ∧ b = nI k)) → Q (some (.long (-2))) w1 (I, D, RR R))
    (v9 : (¬ (∃ k : Nat, k < 24 ∧ a = nI k)) → Q (some (.long (-2))) w1 (I, D, RR R)) : j_Call d 265 [.ref 260, .int a, .int b, .int e, .int f, .int g, .int p] w1 (I, D, RR R) 0 0 Q := by
  refine q_enter (L := [some (.ref 260), some (.int a), some (.int b), some (.int e), some (.int f), some (.int g), some (.int p), none]) j_m265 (Nat.le_of_ble_eq_true rfl) rfl ?_
  refine q_iload_n d265_0 rfl ?_
  refine q_invS (av := [.int a]) (rest := []) (d' := 1) (mc' := 0) (ms' := 0) d265_1 (cv10_312 265 rfl) rfl rfl (by omega) (Nat.le_of_ble_eq_true rfl) (Nat.le_of_ble_eq_true rfl) (Nat.le_refl _) (Nat.le_refl _) ?_
  refine r167 (Nat.le_refl _)  (fun k1 h1 h1e => ?_) (fun h1 => ?_)
  ·
    subst h1e
    show j_W 265 d 0 0 0 0 4 [some (.ref 260), some (.int (nI k1)), some (.int b), some (.int e), some (.int f), some (.int g), some (.int p), none] [.int 1] w1 (I, D, RR R) Q
    refine q_if_eq (tgt := 53) d265_4 rfl (fun h => absurd h (by decide)) (fun _ => ?_)
    refine q_iload_n d265_7 rfl ?_
    refine q_invS (av := [.int b]) (rest := []) (d' := 1) (mc' := 0) (ms' := 0) d265_8 (cv10_312 265 rfl) rfl rfl (by omega) (Nat.le_of_ble_eq_true rfl) (Nat.le_of_ble_eq_true rfl) (Nat.le_refl _) (Nat.le_refl _) ?_
    refine r167 (Nat.le_refl _)  (fun k2 h2 h2e => ?_) (fun h2 => ?_)
    ·
      subst h2e
      show j_W 265 d 0 0 0 0 11 [some (.ref 260), some (.int (nI k1)), some (.int (nI k2)), some (.int e), some (.int f), some (.int g), some (.int p), none] [.int 1] w1 (I, D, RR R) Q
      refine q_if_eq (tgt := 53) d265_11 rfl (fun h => absurd h (by decide)) (fun _ => ?_)
      refine q_iload_n d265_14 rfl ?_
      refine q_invS (av := [.int e]) (rest := []) (d' := 1) (mc' := 0) (ms' := 0) d265_15 (cv10_536 265 rfl) rfl rfl (by omega) (Nat.le_of_ble_eq_true rfl) (Nat.le_of_ble_eq_true rfl) (Nat.le_refl _) (Nat.le_refl _) ?_
      refine s266   (Nat.le_refl _) (fun c3 => ?_) (fun c4 => ?_)
      ·
        show j_W 265 d 0 0 0 0 18 [some (.ref 260), some (.int (nI k1)), some (.int (nI k2)), some (.int e), some (.int f), some (.int g), some (.int p), none] [.int 1] w1 (I, D, RR R) Q
        refine q_if_eq (tgt := 53) d265_18 rfl (fun h => absurd h (by decide)) (fun _ => ?_)
        refine q_iload d265_21 rfl ?_
        refine q_invS (av := [.int f]) (rest := []) (d' := 1) (mc' := 0) (ms' := 0) d265_23 (cv10_536 265 rfl) rfl rfl (by omega) (Nat.le_of_ble_eq_true rfl) (Nat.le_of_ble_eq_true rfl) (Nat.le_refl _) (Nat.le_refl _) ?_
        refine s266   (Nat.le_refl _) (fun c5 => ?_) (fun c6 => ?_)
        ·
          show j_W 265 d 0 0 0 0 26 [some (.ref 260), some (.int (nI k1)), some (.int (nI k2)), some (.int e), some (.int f), some (.int g), some (.int p), none] [.int 1] w1 (I, D, RR R) Q
          refine q_if_eq (tgt := 53) d265_26 rfl (fun h => absurd h (by decide)) (fun _ => ?_)
          refine q_iload_n d265_29 rfl ?_
          refine q_iload d265_30 rfl ?_
          refine q_icmp_ge (tgt := 53) d265_32 rfl (fun h7t => ?_) (fun h7f => ?_)
          ·
            refine q_ldcL (v := (-2)) d265_53 (kc10_326 265 rfl) ?_
            exact q_lret d265_56 rfl (Nat.le_refl _) (Nat.le_refl _) (v1 k1 h1 rfl k2 h2 rfl c3 c5 h7t)
          ·
            refine q_iload d265_35 rfl ?_
            refine q_invS (av := [.int g]) (rest := []) (d' := 1) (mc' := 0) (ms' := 0) d265_37 (cv10_536 265 rfl) rfl rfl (by omega) (Nat.le_of_ble_eq_true rfl) (Nat.le_of_ble_eq_true rfl) (Nat.le_refl _) (Nat.le_refl _) ?_
            refine s266   (Nat.le_refl _) (fun c8 => ?_) (fun c9 => ?_)
            ·
              show j_W 265 d 0 0 0 0 40 [some (.ref 260), some (.int (nI k1)), some (.int (nI k2)), some (.int e), some (.int f), some (.int g), some (.int p), none] [.int 1] w1 (I, D, RR R) Q
              refine q_if_eq (tgt := 53) d265_40 rfl (fun h => absurd h (by decide)) (fun _ => ?_)
              refine q_iload d265_43 rfl ?_
              refine q_iconst (v := 0) (by decide) d265_45 ?_
              refine q_iconst (v := 2) (by decide) d265_46 ?_
              refine q_invS (av := [.int p, .int 0, .int 2]) (rest := []) (d' := 0) (mc' := 0) (ms' := 0) d265_47 (cv10_183 265 rfl) rfl rfl (by omega) (Nat.le_of_ble_eq_true rfl) (Nat.le_of_ble_eq_true rfl) (Nat.le_refl _) (Nat.le_refl _) ?_
              refine p168  (fun h10 => ?_) (fun h10 => ?_)
              ·
                show j_W 265 d 0 0 0 0 50 [some (.ref 260), some (.int (nI k1)), some (.int (nI k2)), some (.int e), some (.int f), some (.int g), some (.int p), none] [.int 1] w1 (I, D, RR R) Q
                refine q_if_ne (tgt := 57) d265_50 rfl (fun _ => ?_) (fun h => absurd h (by decide))
                refine q_aload_n d265_57 rfl ?_
                refine q_iload_n d265_58 rfl ?_
                refine q_invV (o := 260) (ci := 10) (av := [.int (nI k1)]) (rest := []) (d' := 0) (mc' := 0) (ms' := 0) d265_59 (cv10_204 265 rfl) rfl (by decide) rfl rfl (by omega) (Nat.le_of_ble_eq_true rfl) (Nat.le_of_ble_eq_true rfl) (lt_w1 rfl) sh260 (Nat.le_refl _) (Nat.le_refl _) ?_
                refine s170 (k := k1) (by first | omega | decide) (Nat.le_refl _) (fun c11 => ?_) (fun c12 => ?_)
                ·
                  show j_W 265 d 0 0 0 0 62 [some (.ref 260), some (.int (nI k1)), some (.int (nI k2)), some (.int e), some (.int f), some (.int g), some (.int p), none] [.int 0] w1 (I, D, RR R) Q
                  refine q_if_ne (tgt := 69) d265_62 rfl (fun h => absurd h (by decide)) (fun _ => ?_)
                  refine q_ldcL (v := (-3)) d265_65 (kc10_339 265 rfl) ?_
                  exact q_lret d265_68 rfl (Nat.le_refl _) (Nat.le_refl _) (v2 k1 h1 rfl k2 h2 rfl c3 c5 h7f c8 h10 c11)
                ·
                  show j_W 265 d 0 0 0 0 62 [some (.ref 260), some (.int (nI k1)), some (.int (nI k2)), some (.int e), some (.int f), some (.int g), some (.int p), none] [.int 1] w1 (I, D, RR R) Q
                  refine q_if_ne (tgt := 69) d265_62 rfl (fun _ => ?_) (fun h => absurd h (by decide))
                  exact r_sub (L' := [some (.ref 260), some (.int (nI k1)), some (.int (nI k2)), some (.int e), some (.int f), some (.int g), some (.int p), none]) ⟨rfl, rfl, rfl, rfl, rfl, rfl, rfl, trivial⟩ (v3 k1 h1 rfl k2 h2 rfl c3 c5 h7f c8 h10 c12)
              ·
                show j_W 265 d 0 0 0 0 50 [some (.ref 260), some (.int (nI k1)), some (.int (nI k2)), some (.int e), some (.int f), some (.int g), some (.int p), none] [.int 0] w1 (I, D, RR R) Q
                refine q_if_ne (tgt := 57) d265_50 rfl (fun h => absurd h (by decide)) (fun _ => ?_)
                refine q_ldcL (v := (-2)) d265_53 (kc10_326 265 rfl) ?_
                exact q_lret d265_56 rfl (Nat.le_refl _) (Nat.le_refl _) (v4 k1 h1 rfl k2 h2 rfl c3 c5 h7f c8 h10)
            ·
              show j_W 265 d 0 0 0 0 40 [some (.ref 260), some (.int (nI k1)), some (.int (nI k2)), some (.int e), some (.int f), some (.int g), some (.int p), none] [.int 0] w1 (I, D, RR R) Q
              refine q_if_eq (tgt := 53) d265_40 rfl (fun _ => ?_) (fun h => absurd h (by decide))
              refine q_ldcL (v := (-2)) d265_53 (kc10_326 265 rfl) ?_
              exact q_lret d265_56 rfl (Nat.le_refl _) (Nat.le_refl _) (v5 k1 h1 rfl k2 h2 rfl c3 c5 h7f c9)
        ·
          show j_W 265 d 0 0 0 0 26 [some (.ref 260), some (.int (nI k1)), some (.int (nI k2)), some (.int e), some (.int f), some (.int g), some (.int p), none] [.int 0] w1 (I, D, RR R) Q
          refine q_if_eq (tgt := 53) d265_26 rfl (fun _ => ?_) (fun h => absurd h (by decide))
          refine q_ldcL (v := (-2)) d265_53 (kc10_326 265 rfl) ?_
          exact q_lret d265_56 rfl (Nat.le_refl _) (Nat.le_refl _) (v6 k1 h1 rfl k2 h2 rfl c3 c6)
      ·
        show j_W 265 d 0 0 0 0 18 [some (.ref 260), some (.int (nI k1)), some (.int (nI k2)), some (.int e), some (.int f), some (.int g), some (.int p), none] [.int 0] w1 (I, D, RR R) Q
        refine q_if_eq (tgt := 53) d265_18 rfl (fun _ => ?_) (fun h => absurd h (by decide))
        refine q_ldcL (v := (-2)) d265_53 (kc10_326 265 rfl) ?_
        exact q_lret d265_56 rfl (Nat.le_refl _) (Nat.le_refl _) (v7 k1 h1 rfl k2 h2 rfl c4)
    ·
      show j_W 265 d 0 0 0 0 11 [some (.ref 260), some (.int (nI k1)), some (.int b), some (.int e), some (.int f), some (.int g), some (.int p), none] [.int 0] w1 (I, D, RR R) Q
      refine q_if_eq (tgt := 53) d265_11 rfl (fun _ => ?_) (fun h => absurd h (by decide))
      refine q_ldcL (v := (-2)) d265_53 (kc10_326 265 rfl) ?_
      exact q_lret d265_56 rfl (Nat.le_refl _) (Nat.le_refl _) (v8 k1 h1 rfl h2)
  ·
    show j_W 265 d 0 0 0 0 4 [some (.ref 260), some (.int a), some (.int b), some (.int e), some (.int f), some (.int g), some (.int p), none] [.int 0] w1 (I, D, RR R) Q
    refine q_if_eq (tgt := 53) d265_4 rfl (fun _ => ?_) (fun h => absurd h (by decide))
    refine q_ldcL (v := (-2)) d265_53 (kc10_326 265 rfl) ?_
    exact q_lret d265_56 rfl (Nat.le_refl _) (Nat.le_refl _) (v9 h1)

set_option maxRecDepth 10000 in
set_option maxHeartbeats 4000000 in
theorem u265a {d : Nat} {I : Nat → Nat → Int32} {D : Nat → Nat → UInt64} {R : Nat → Nat → Option Nat} {Q : j_Po} {i : Nat} {c : Nat} {e : Int32} {f : Int32} {g : Int32} {p : Int32}   (hd : 2 ≤ d)
    (v1 : j_W 265 d 0 0 0 0 79 [some (.ref 260), some (.int (nI i)), some (.int (nI c)), some (.int e), some (.int f), some (.int g), some (.int p), none] [] w1 ((j_u (j_u I 260 51 0) 260 52 0), D, RR R) Q) : j_W 265 d 0 0 0 0 69 [some (.ref 260), some (.int (nI i)), some (.int (nI c)), some (.int e), some (.int f), some (.int g), some (.int p), none] [] w1 (I, D, RR R) Q := by
  refine q_aload_n d265_69 rfl ?_
  refine q_iconst (v := 0) (by decide) d265_70 ?_
  refine q_putI d265_71 (fs10_511 265 rfl) (Or.inl rfl) rfl (lt_w1 rfl) sh260 ?_
  refine q_aload_n d265_74 rfl ?_
  refine q_iconst (v := 0) (by decide) d265_75 ?_
  refine q_putZ d265_76 (fs10_514 265 rfl) (Or.inl rfl) rfl (Or.inl rfl) (lt_w1 rfl) sh260 ?_
  exact r_sub (L' := [some (.ref 260), some (.int (nI i)), some (.int (nI c)), some (.int e), some (.int f), some (.int g), some (.int p), none]) ⟨rfl, rfl, rfl, rfl, rfl, rfl, rfl, trivial⟩ v1

set_option maxRecDepth 10000 in
set_option maxHeartbeats 4000000 in
theorem u265b {d : Nat} {I : Nat → Nat → Int32} {D : Nat → Nat → UInt64} {R : Nat → Nat → Option Nat} {Q : j_Po} {i : Nat} {c : Nat} {e : Int32} {f : Int32} {g : Int32} {p : Int32} {o : Bool} {AP : (Nat → Nat → Int32) → (Nat → Nat → UInt64) → Prop} (hA : ∀ (Q : j_Po), (∀ J E, AP J E → Q (some (.int (bi o))) w1 (J, E, RR R)) → j_Call 115 267 [.ref 260, .int (nI i), .int (nI c), .double (FP.ddiv (FP.i2d e) 4620693217682128896), .double (FP.ddiv (FP.i2d f) 4620693217682128896), .double (FP.ddiv (FP.i2d g) 4620693217682128896)] w1 (I, D, RR R) 0 0 Q) (hd : 120 ≤ d)
    (v1 : ∀ J1 : Nat → Nat → Int32, ∀ E2 : Nat → Nat → UInt64, (AP J1 E2) → j_W 265 d 0 0 0 0 107 [some (.ref 260), none, none, none, none, none, some (.int p), some (.int (bi o))] [] w1 (J1, E2, RR R) Q) : j_W 265 d 0 0 0 0 79 [some (.ref 260), some (.int (nI i)), some (.int (nI c)), some (.int e), some (.int f), some (.int g), some (.int p), none] [] w1 (I, D, RR R) Q := by
  refine q_aload_n d265_79 rfl ?_
  refine q_iload_n d265_80 rfl ?_
  refine q_iload_n d265_81 rfl ?_
  refine q_iload_n d265_82 rfl ?_
  refine q_i2d d265_83 ?_
  refine q_ldcD (v := 4620693217682128896) d265_84 (kc10_318 265 rfl) ?_
  refine q_ddiv (n64_i8 _) d265_87 ?_
  refine q_iload d265_88 rfl ?_
  refine q_i2d d265_90 ?_
  refine q_ldcD (v := 4620693217682128896) d265_91 (kc10_318 265 rfl) ?_
  refine q_ddiv (n64_i8 _) d265_94 ?_
  refine q_iload d265_95 rfl ?_
  refine q_i2d d265_97 ?_
  refine q_ldcD (v := 4620693217682128896) d265_98 (kc10_318 265 rfl) ?_
  refine q_ddiv (n64_i8 _) d265_101 ?_
  refine q_invV (o := 260) (ci := 10) (av := [.int (nI i), .int (nI c), .double (FP.ddiv (FP.i2d e) 4620693217682128896), .double (FP.ddiv (FP.i2d f) 4620693217682128896), .double (FP.ddiv (FP.i2d g) 4620693217682128896)]) (rest := []) (d' := 115) (mc' := 0) (ms' := 0) d265_102 (cv10_539 265 rfl) rfl (by decide) rfl rfl (by omega) (Nat.le_of_ble_eq_true rfl) (Nat.le_of_ble_eq_true rfl) (lt_w1 rfl) sh260 (Nat.le_refl _) (Nat.le_refl _) ?_
  refine hA _  (fun J1 E2 h3 => ?_)
  show j_W 265 d 0 0 0 0 105 [some (.ref 260), some (.int (nI i)), some (.int (nI c)), some (.int e), some (.int f), some (.int g), some (.int p), none] [.int (bi o)] w1 (J1, E2, RR R) Q
  refine q_istore (L' := [some (.ref 260), some (.int (nI i)), some (.int (nI c)), some (.int e), some (.int f), some (.int g), some (.int p), some (.int (bi o))]) d265_105 (Nat.le_of_ble_eq_true rfl) rfl ?_
  exact r_sub (L' := [some (.ref 260), none, none, none, none, none, some (.int p), some (.int (bi o))]) ⟨rfl, rfl, rfl, trivial⟩ (v1 J1 E2 h3)

set_option maxRecDepth 10000 in
set_option maxHeartbeats 4000000 in
theorem u265z {d : Nat} {I : Nat → Nat → Int32} {D : Nat → Nat → UInt64} {R : Nat → Nat → Option Nat} {Q : j_Po} {p : Int32} {o : Bool}  (hd : 3 ≤ d)
    (v1 : (¬ p = 2) → (o = true) → (¬ p = 0) → Fi (D 260 54))
    (v2 : (¬ p = 2) → (o = true) → (¬ p = 0) → Q (some (.long ((D 260 54) : UInt64).toInt64)) w1 (I, D, RR R))
    (v3 : (¬ p = 2) → (o = true) → (p = 0) → Fi (D 260 53))
    (v4 : (¬ p = 2) → (o = true) → (p = 0) → Q (some (.long ((D 260 53) : UInt64).toInt64)) w1 (I, D, RR R))
    (v5 : (¬ p = 2) → (o = false) → Q (some (.long (-1))) w1 (I, D, RR R))
    (v6 : (p = 2) → Q (some (.long (((I 260 51) : Int32).toInt64))) w1 (I, D, RR R)) : j_W 265 d 0 0 0 0 107 [some (.ref 260), none, none, none, none, none, some (.int p), some (.int (bi o))] [] w1 (I, D, RR R) Q := by
  refine q_iload d265_107 rfl ?_
  refine q_iconst (v := 2) (by decide) d265_109 ?_
  refine q_icmp_ne (tgt := 119) d265_110 rfl (fun h1t => ?_) (fun h1f => ?_)
  ·
    refine q_iload d265_119 rfl ?_
    refine q_if_ne (tgt := 128) d265_121 rfl (fun h2t => ?_) (fun h2f => ?_)
    ·
      have h2tc : o = true := bi_1 h2t
      refine q_iload d265_128 rfl ?_
      refine q_if_ne (tgt := 140) d265_130 rfl (fun h3t => ?_) (fun h3f => ?_)
      ·
        refine q_aload_n d265_140 rfl ?_
        refine q_getD d265_141 (fs10_520 265 rfl) rfl (lt_w1 rfl) sh260 ?_
        refine q_invS (av := [.double (D 260 54)]) (rest := []) (d' := 2) (mc' := 0) (ms' := 0) d265_144 (cv10_305 265 rfl) rfl rfl (by omega) (Nat.le_of_ble_eq_true rfl) (Nat.le_of_ble_eq_true rfl) (Nat.le_refl _) (Nat.le_refl _) ?_
        refine f202b (Nat.le_refl 2) (v1 h1t h2tc h3t) ?_
        show j_W 265 d 0 0 0 0 147 [some (.ref 260), none, none, none, none, none, some (.int p), some (.int (bi o))] [.long ((D 260 54) : UInt64).toInt64] w1 (I, D, RR R) Q
        exact q_lret d265_147 rfl (Nat.le_refl _) (Nat.le_refl _) (v2 h1t h2tc h3t)
      ·
        refine q_aload_n d265_133 rfl ?_
        refine q_getD d265_134 (fs10_517 265 rfl) rfl (lt_w1 rfl) sh260 ?_
        refine q_goto (tgt := 144) d265_137 rfl ?_
        refine q_invS (av := [.double (D 260 53)]) (rest := []) (d' := 2) (mc' := 0) (ms' := 0) d265_144 (cv10_305 265 rfl) rfl rfl (by omega) (Nat.le_of_ble_eq_true rfl) (Nat.le_of_ble_eq_true rfl) (Nat.le_refl _) (Nat.le_refl _) ?_
        refine f202b (Nat.le_refl 2) (v3 h1t h2tc h3f) ?_
        show j_W 265 d 0 0 0 0 147 [some (.ref 260), none, none, none, none, none, some (.int p), some (.int (bi o))] [.long ((D 260 53) : UInt64).toInt64] w1 (I, D, RR R) Q
        exact q_lret d265_147 rfl (Nat.le_refl _) (Nat.le_refl _) (v4 h1t h2tc h3f)
    ·
      have h2fc : o = false := bi_0 h2f
      refine q_ldcL (v := (-1)) d265_124 (kc10_543 265 rfl) ?_
      exact q_lret d265_127 rfl (Nat.le_refl _) (Nat.le_refl _) (v5 h1t h2fc)
  ·
    refine q_aload_n d265_113 rfl ?_
    refine q_getI d265_114 (fs10_511 265 rfl) rfl (lt_w1 rfl) sh260 ?_
    refine q_i2l d265_117 ?_
    exact q_lret d265_118 rfl (Nat.le_refl _) (Nat.le_refl _) (v6 h1f)

