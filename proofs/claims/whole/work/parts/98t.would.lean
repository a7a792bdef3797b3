set_option maxRecDepth 10000 in
set_option maxHeartbeats 4000000 in
theorem u205g {d : Nat} {I : Nat → Nat → Int32} {D : Nat → Nat → UInt64} {R : Nat → Nat → Option Nat} {Q : j_Po} {c : Nat} {w : Int32} {o : Nat} {β : Bd} (hV : BV β) (hd : 100 ≤ d)
    (v1 : RSt β I D)
    (v2 : RIn β I D (env β))
    (v3 : c < 24)
    (v4 : o < 24)
    (v5 : Sm (FP.ddiv (FP.i2d w) 4620693217682128896))
    (v6 : 90 ≤ 90)
    (v7 : ∀ J1 : Nat → Nat → Int32, ∀ E2 : Nat → Nat → UInt64, (FRr I D J1 E2) → (VQ (J1 380 o) (J1 388 o) (E2 372 o) (val β (fu (env β) c (0, kp (nI (bK β c)) (FP.ddiv (FP.i2d w) 4620693217682128896))) o)) → 0 ≤ 0)
    (v8 : ∀ J1 : Nat → Nat → Int32, ∀ E2 : Nat → Nat → UInt64, (FRr I D J1 E2) → (VQ (J1 380 o) (J1 388 o) (E2 372 o) (val β (fu (env β) c (0, kp (nI (bK β c)) (FP.ddiv (FP.i2d w) 4620693217682128896))) o)) → 3 ≤ 3)
    (v9 : ∀ J1 : Nat → Nat → Int32, ∀ E2 : Nat → Nat → UInt64, (FRr I D J1 E2) → (VQ (J1 380 o) (J1 388 o) (E2 372 o) (val β (fu (env β) c (0, kp (nI (bK β c)) (FP.ddiv (FP.i2d w) 4620693217682128896))) o)) → VQ (J1 380 o) (J1 388 o) (E2 372 o) (val β (fu (env β) c (0, kp (nI (bK β c)) (FP.ddiv (FP.i2d w) 4620693217682128896))) o))
    (v10 : ∀ J1 : Nat → Nat → Int32, ∀ E2 : Nat → Nat → UInt64, (FRr I D J1 E2) → (VQ (J1 380 o) (J1 388 o) (E2 372 o) (val β (fu (env β) c (0, kp (nI (bK β c)) (FP.ddiv (FP.i2d w) 4620693217682128896))) o)) → Q (some (.long (ansV (val β (fu (env β) c (0, kp (nI (bK β c)) (FP.ddiv (FP.i2d w) 4620693217682128896))) o)))) w1 (J1, E2, RR R)) : j_W 205 d 0 0 0 0 37 [some (.ref 260), some (.int (nI c)), some (.int w), some (.int (nI o)), none, none] [] w1 (I, D, RR R) Q := by
  refine q_aload_n d205_37 rfl ?_
  refine q_iload_n d205_38 rfl ?_
  refine q_iload_n d205_39 rfl ?_
  refine q_i2d d205_40 ?_
  refine q_ldcD (v := 4620693217682128896) d205_41 (kc10_318 205 rfl) ?_
  refine q_ddiv (n64_i8 _) d205_44 ?_
  refine q_iload_n d205_45 rfl ?_
  refine q_invV (o := 260) (ci := 10) (av := [.int (nI c), .double (FP.ddiv (FP.i2d w) 4620693217682128896), .int (nI o)]) (rest := []) (d' := 90) (mc' := 0) (ms' := 0) d205_46 (cv10_341 205 rfl) rfl (by decide) rfl rfl (by omega) (Nat.le_of_ble_eq_true rfl) (Nat.le_of_ble_eq_true rfl) (lt_w1 rfl) sh260 (Nat.le_refl _) (Nat.le_refl _) ?_
  refine c206 (η := env β) hV v1 v2 v3 v4 v5 v6 (fun J1 E2 h3 h4 => ?_)
  show j_W 205 d 0 0 0 0 49 [some (.ref 260), some (.int (nI c)), some (.int w), some (.int (nI o)), none, none] [.double (E2 372 o)] w1 (J1, E2, RR R) Q
  refine q_dstore (L' := [some (.ref 260), some (.int (nI c)), some (.int w), some (.int (nI o)), some (.double (E2 372 o)), none]) d205_49 (Nat.le_of_ble_eq_true rfl) rfl ?_
  refine q_dload d205_51 rfl ?_
  refine q_aload_n d205_53 rfl ?_
  refine q_iload_n d205_54 rfl ?_
  refine q_invV (o := 260) (ci := 10) (av := [.int (nI o)]) (rest := [.double (E2 372 o)]) (d' := 0) (mc' := 0) (ms' := 0) d205_55 (cv10_332 205 rfl) rfl (by decide) rfl rfl (by omega) (Nat.le_of_ble_eq_true rfl) (Nat.le_of_ble_eq_true rfl) (lt_w1 rfl) sh260 (Nat.le_refl _) (Nat.le_refl _) ?_
  refine u200 v4 (v7 J1 E2 h3 h4) ?_
  show j_W 205 d 0 0 0 0 58 [some (.ref 260), some (.int (nI c)), some (.int w), some (.int (nI o)), some (.double (E2 372 o)), none] [.int (J1 380 o), .double (E2 372 o)] w1 (J1, E2, RR R) Q
  refine q_invS (av := [.double (E2 372 o), .int (J1 380 o)]) (rest := []) (d' := 3) (mc' := 0) (ms' := 0) d205_58 (cv10_335 205 rfl) rfl rfl (by omega) (Nat.le_of_ble_eq_true rfl) (Nat.le_of_ble_eq_true rfl) (Nat.le_refl _) (Nat.le_refl _) ?_
  refine c201 (v := (val β (fu (env β) c (0, kp (nI (bK β c)) (FP.ddiv (FP.i2d w) 4620693217682128896))) o)) (b := (J1 388 o)) (v8 J1 E2 h3 h4) (v9 J1 E2 h3 h4) ?_
  show j_W 205 d 0 0 0 0 61 [some (.ref 260), some (.int (nI c)), some (.int w), some (.int (nI o)), some (.double (E2 372 o)), none] [.long (ansV (val β (fu (env β) c (0, kp (nI (bK β c)) (FP.ddiv (FP.i2d w) 4620693217682128896))) o))] w1 (J1, E2, RR R) Q
  exact q_lret d205_61 rfl (Nat.le_refl _) (Nat.le_refl _) (v10 J1 E2 h3 h4)

theorem fu_ne {η : VEnv} {c k : Nat} {t : Int32} {x : UInt64} (hη : ∀ c, (η c).1 = 0 → (η c).2 ≠ 0x8000000000000000) : (fu η c (0, kp t x) k).1 = 0 → (fu η c (0, kp t x) k).2 ≠ 0x8000000000000000 := by
  by_cases e : k = c
  · subst e; rw [fu_s]; exact fun _ => kp_ne
  · rw [fu_n e]; exact hη k
theorem lD100 : 100 ≤ lD := by decide
theorem both_would (a w b : Int32) : BothL Inv 58 205 [.int a, .int w, .int b] := fun σ h => by
  have hT := h
  obtain ⟨⟨hR, hW⟩, ⟨β, hC, hB, hN', hV, hN, hO, hb⟩, hRe⟩ := h
  show j_Call lD 58 [.ref 0, .int a, .int w, .int b] w1 (σ.1, σ.2.1, RR σ.2.2) 0 0 (PEndL 205 [.int a, .int w, .int b] Inv)
  have em : (-(8000000 : Int32)) = (-8000000 : Int32) := by decide
  refine u58r hR lD2 (fun c hc e hw o ho e2 hz => ?_) (fun c hc e hw o ho e2 hz => ?_) (fun c hc e hw h => ?_) (fun c hc e h => ?_) (fun h => ?_)
  · subst e
    subst e2
    have hcc := hC.1 c hc
    have hbb := hB.1 c hc
    have hz9 := (hV.1 c hc).2.1
    have hz : σ.1 (fo σ.2.2 c) 1 ≤ 0 := hz
    have z0 : bZ β c = 0 := by
      rw [hcc.2.2.2.2.1, show (0 : Int32) = nI 0 from rfl, nI_leI (by omega) (by decide)] at hz; omega
    refine u58a (AP := fun J E => FRc σ.1 σ.2.1 J E ∧ J 107 7 = 0 ∧ LE β J E 0 (env β)) (fun Q2 hq2 => c34o hC (by decide) (fun J E a1 a2 a3 => hq2 J E ⟨a1, a2, a3⟩)) lD1 (fun J E hA => ?_)
    obtain ⟨a1, a2, a3⟩ := hA
    have hx := sm_i8 w
    have ze : ∀ K : Nat → Nat → Int32, K 264 = σ.1 264 → K 264 c = 0 := fun K hK => by rw [hK, hbb.2.2.2.2.1, z0]; rfl
    have ref : ∀ (J2 : Nat → Nat → Int32) (E2 : Nat → Nat → UInt64) (Q : j_Po), FRc σ.1 σ.2.1 J2 E2 → (∀ K F, FRr J2 E2 K F → Q (some (.long (ansV (val β (fu (env β) c (0, kp (nI (bK β c)) (FP.ddiv (FP.i2d w) 4620693217682128896))) o)))) w1 (K, F, RR σ.2.2)) → j_Call lD 205 [.ref 260, .int (nI c), .int w, .int (nI o)] w1 (J2, E2, RR σ.2.2) 0 0 Q := fun J2 E2 Q h1 hQ => by
      have hB2 := FRc.rb h1 hB
      have z2 : J2 264 c = 0 := by rw [(hB2.1 c hc).2.2.2.2.1, z0]; rfl
      refine u205r lD3 (fun k hk e _ _ _ _ h => absurd (by rw [nI_in24 hc hk e]; exact z2) h) (fun k hk e _ p hp e2 _ => ?_) (fun k hk e _ h => absurd ⟨o, ho, rfl⟩ h) (fun k hk e h => absurd (em ▸ hw) h) (fun h => absurd ⟨c, hc, rfl⟩ h)
      obtain rfl := nI_in24 hc hk e
      obtain rfl := nI_in24 ho hp e2
      exact u205g hV lD100 hB2.st hB2.inp hc ho hx (Nat.le_refl _) (fun _ _ _ _ => by first | decide | omega) (fun _ _ _ _ => Nat.le_refl _) (fun _ _ _ h => h) (fun K F k1 _ => hQ K F k1)
    exact u58b hR hV (a1.cb hR hC) (a1.nm hN) (a1.or hO) hc ho lD50 hc ho hx a2 a3 (Nat.le_refl _) (fun J2 E2 _ _ _ _ _ => Nat.le_refl _) (fun J2 E2 _ _ _ _ h => by rw [← h.1]; exact h) (fun J2 E2 _ _ _ _ _ h => val_ne hV ho (fun _ => fu_ne (fun _ => env_ne)) h) (fun J2 E2 h1 _ _ _ _ => pend_tellL hT (a1.tr h1) (fun Q hQ => ref J2 E2 Q (a1.tr h1) hQ))
  · subst e
    subst e2
    have hcc := hC.1 c hc
    have hbb := hB.1 c hc
    have hz9 := (hV.1 c hc).2.1
    have hz : ¬ σ.1 (fo σ.2.2 c) 1 ≤ 0 := hz
    have z2 : ¬ σ.1 264 c = 0 := fun g => hz (by
      rw [hbb.2.2.2.2.1] at g
      rw [hcc.2.2.2.2.1, g]; decide)
    exact pend_sameL hT (u205r lD3 (fun _ _ _ _ _ _ _ _ => ⟨rfl, rfl, rfl⟩) (fun k hk e _ p hp e2 h => absurd (by rw [nI_in24 hc hk e] at h; exact h) z2) (fun k hk e _ h => absurd ⟨o, ho, rfl⟩ h) (fun k hk e h => absurd (em ▸ hw) h) (fun h => absurd ⟨c, hc, rfl⟩ h))
  · exact pend_sameL hT (u205r lD3 (fun k hk e _ p hp e2 _ => absurd ⟨p, hp, e2⟩ h) (fun k hk e _ p hp e2 _ => absurd ⟨p, hp, e2⟩ h) (fun k hk e _ _ => ⟨rfl, rfl, rfl⟩) (fun k hk e g => absurd (em ▸ hw) g) (fun g => absurd ⟨c, hc, e⟩ g))
  · exact pend_sameL hT (u205r lD3 (fun k hk e g p hp e2 _ => absurd (em ▸ g) h) (fun k hk e g p hp e2 _ => absurd (em ▸ g) h) (fun k hk e g _ => absurd (em ▸ g) h) (fun k hk e g => ⟨rfl, rfl, rfl⟩) (fun g => absurd ⟨c, hc, e⟩ g))
  · exact pend_sameL hT (u205r lD3 (fun k hk e => absurd ⟨k, hk, e⟩ h) (fun k hk e => absurd ⟨k, hk, e⟩ h) (fun k hk e => absurd ⟨k, hk, e⟩ h) (fun k hk e => absurd ⟨k, hk, e⟩ h) (fun _ => ⟨rfl, rfl, rfl⟩))
