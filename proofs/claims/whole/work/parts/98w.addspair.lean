/-! adds -/
theorem d2l_i2d' (x : Int32) : FP.d2l (FP.i2d x) = x.toInt64 := Jvm.FP.Core.d2l_int (by rw [Int32.toInt_toInt64]; exact Jvm.FP.Core.i2d_int x)
theorem ans_ask {f : Nat} {T : Tl} : ansV (askV 0 f T) = if askE f T = 0 then (askN f T).toInt64 else ((-20) - nI (askE f T) : Int32).toInt64 := by
  unfold askV
  by_cases h : askE f T = 0
  · rw [if_pos h, if_pos h]; exact if_pos rfl
  · rw [if_neg h, if_neg h]
    unfold ansV
    rw [if_neg (by simp only; omega), show (askE f T * 32 + 0, FP.dconst0).1 / 32 = askE f T by simp only; omega]
theorem csV_nz {β : Bd} {t n : Nat} (hV : BV β) (ht : t < 6) (hl : bL β t = true) (h : ∀ q, q < n → (csV β (env β) t q).1 < 200 ∧ ((csV β (env β) t q).1 = 0 → Sm (csV β (env β) t q).2)) : NZ (csV β (env β) t) n := fun k hk h0 => ⟨(h k hk).2 h0, val_ne hV (hV.2.1 t ht hl).1 (fun _ => sup_ne (fun _ => env_ne)) h0⟩
section AD
variable {β : Bd} {I : Nat → Nat → Int32} {D : Nat → Nat → UInt64} {R : Nat → Nat → Option Nat} {Q : j_Po}
/-- the class's answer -/
theorem a121 {v : Nat → Vl} {n t b : Nat} (ht : t < 6) (hb : b < 4) (hn : n ≤ 64) (hNZ : NZ v n) (hT : TLR I D (230 + 3 * t) n v) (h0 : askE b (tal v n) = 0) (hs : Sm (askN b (tal v n))) (hq : Q (some (.long (askN b (tal v n)).toInt64)) w1 (I, D, RR R)) : j_W 121 lD 0 0 0 0 82 [some (.ref 0), some (.int (nI t)), some (.int (nI b)), some (.ref (230 + 3 * t)), none, some (.double (askN b (tal v n))), none] [] w1 (I, D, RR R) Q := by
  obtain ⟨n1, n2, n3⟩ := tal_ne hNZ
  have hok := tal_ok (v := v) (n := n) (fun k hk h => (hNZ k hk h).1)
  obtain ⟨o1, o2, -, -, -, -⟩ := hok
  have eS : D (230 + 3 * t) 4 = tSm (tal v n) := hT.2.2.2.1
  have z8 : deq 0x8000000000000000 FP.dconst0 = true := by decide +kernel
  -- not the mean
  have other : b ≠ 1 → askN b (tal v n) ≠ 0x8000000000000000 := fun h1 => by
    have hc : b = 0 ∨ b = 2 ∨ b = 3 := by omega
    rcases hc with rfl | rfl | rfl
    · have hf : tF (tal v n) = false := by
        cases hf : tF (tal v n) with
        | false => rfl
        | true => unfold askE at h0; rw [if_neg (by omega), if_pos ⟨by decide, hf⟩] at h0; cases h0
      exact n1 hf
    · exact n2
    · exact n3
  have mean : b = 1 → tF (tal v n) = false ∧ 1 ≤ tG (tal v n) ∧ askN b (tal v n) = FP.ddiv (tSm (tal v n)) (FP.i2d (nI (tG (tal v n)))) := fun h1 => by
    subst h1
    have hg : tG (tal v n) ≠ 0 := fun h => by unfold askE at h0; rw [if_pos ⟨by decide, by decide, h⟩] at h0; cases h0
    have hf : tF (tal v n) = false := by
      cases hf : tF (tal v n) with
      | false => rfl
      | true => unfold askE at h0; rw [if_neg (fun h => hg h.2.2), if_pos ⟨by decide, hf⟩] at h0; cases h0
    refine ⟨hf, by omega, ?_⟩
    unfold askN; rw [if_neg (by decide), if_pos rfl, if_neg hg]
  refine u121c ht (by omega) (by decide) (fun h => ⟨hs, fun e => ?_⟩) (fun _ => hq) (fun h g => ⟨hs, fun e => ?_⟩) (fun _ _ => hq) (fun h g b1 => ⟨hs, other b1⟩) (fun _ _ _ => hq) (fun h g b1 => ?_)
  · rw [e, z8] at h; cases h
  · by_cases b1 : b = 1
    · obtain ⟨hf, hg, hy⟩ := mean b1
      have hsum := o2 hf
      have hvs : vs (askN b (tal v n)) = vs (tSm (tal v n)) := by rw [hy]; exact mean_vs hsum hg (by omega)
      rw [e] at hvs
      have hv1 : vs (0x8000000000000000 : UInt64) = true := by decide +kernel
      rw [hv1] at hvs
      have hvm := (nz_s hsum.1 (n1 hf)).resolve_left (by rw [← hvs]; simp)
      have : dlt (D (230 + 3 * t) 4) FP.dconst0 = true := by
        rw [eS, dlt_iff hsum.1 fi_0, vz_0, vz_neg hvs.symm]; omega
      rw [this] at g; cases g
    · exact other b1 e
  · obtain ⟨hf, hg, hy⟩ := mean b1
    have hsum := o2 hf
    have hvs : vs (askN b (tal v n)) = vs (tSm (tal v n)) := by rw [hy]; exact mean_vs hsum hg (by omega)
    rw [eS, dlt_iff hsum.1 fi_0, vz_0] at g
    have h1 : vs (tSm (tal v n)) = true := by
      cases h : vs (tSm (tal v n)) with
      | true => rfl
      | false => rw [vz_pos h] at g; omega
    rw [h1] at hvs
    rw [deq_iff hs.1 fi_0, vz_0, vz_neg hvs] at h
    have hx := nz_x hs.1 hvs (by omega)
    rw [hx] at hq; exact hq
/-- the reference's -/
theorem a259 (hV : BV β) (hB : RB β I D) {t b : Nat} (ht : t < 6) (hl : bL β t = true) (hb : b < 5) (hq : ∀ K F, FRr I D K F → Q (some (.long (if b = 4 then (nI (tB (tal (csV β (env β) t) (cas β t)))).toInt64 else ansV (askV 0 b (tal (csV β (env β) t) (cas β t)))))) w1 (K, F, RR R)) : j_W 259 lD 0 0 0 0 33 [some (.ref 260), some (.int (nI t)), some (.int (nI b))] [] w1 (I, D, RR R) Q := by
  have r0 : FRr I D (j_u (j_u I 260 18 0) 260 26 0) D := rr_0
  refine u259a (by decide) ?_
  refine u259b (AP := fun J E => E = D ∧ FRr (j_u (j_u I 260 18 0) 260 26 0) D J D ∧ J 260 = j_u (j_u I 260 18 0) 260 26 0 260 ∧ QM β 0 (env β) J D) (fun Q2 hq2 => c190o (β := β) (η := env β) (by rw [j_u_k _ _ (by decide), j_u_same]) (fun J a1 a2 a3 => hq2 J D ⟨rfl, a1, a2, a3⟩)) (by decide) (fun J E hA => ?_)
  obtain ⟨rfl, a1, a2, a3⟩ := hA
  have a0 := FRr.tr r0 a1
  refine u259c (AP := fun J2 E2 => FRr J E J2 E2 ∧ (∀ f, f < 5 → SR (J2 412 (5 * t + f)) (E2 404 (5 * t + f)) f (tab β (env β) t (cas β t)))) (fun Q2 hq2 => c194o (η := env β) hV (a0.st hB.st) (a0.inp hB.inp) a3 ht hl (by rw [a2, j_u_k _ _ (by decide), j_u_same]) (by rw [a2, j_u_same]) (by decide) (fun J2 E2 b1 b2 => hq2 J2 E2 ⟨b1, b2⟩)) (by decide) (fun J2 E2 hB2 => ?_)
  obtain ⟨b1, b2⟩ := hB2
  have hQ := hq J2 E2 (a0.tr b1)
  refine u259d ht hb (by decide) (fun _ => Nat.le_refl _) (fun h => (b2 b hb).vq (by decide)) (fun h => ?_) (fun h => ?_)
  · rw [if_neg h] at hQ; exact hQ
  · rw [if_pos h] at hQ
    have e4 := (b2 4 (by decide)).2 (by unfold askE; rw [if_neg (fun h => absurd h.2.1 (by decide)), if_neg (fun h => absurd h.1 (by decide))])
    have e5 : E2 404 (5 * t + 4) = FP.i2d (nI (tB (tal (csV β (env β) t) (cas β t)))) := e4.1
    rw [e5, d2l_i2d']; exact hQ
end AD
theorem both_adds (a b : Int32) : BothL Inv 121 259 [.int a, .int b] := fun σ h => by
  have hT := h
  obtain ⟨⟨hR, hW⟩, ⟨β, hC, hB, hN', hV, hN, hO, hb⟩, hRe⟩ := h
  show j_Call lD 121 [.ref 0, .int a, .int b] w1 (σ.1, σ.2.1, RR σ.2.2) 0 0 (PEndL 259 [.int a, .int b] Inv)
  refine u121r hR lD2 (fun t ht e g => ?_) (fun t ht e g g2 hl => ?_) (fun t ht e g g2 hl => ?_) (fun t ht e g g2 => ?_) (fun h => ?_)
  · have nb : ¬ (¬ b < (0 : Int32) ∧ ¬ (4 : Int32) < b) := fun h => h.1 g
    exact pend_sameL hT (u259r lD3 (fun _ _ _ h => absurd h nb) (fun _ _ _ h => absurd h nb) (fun _ _ _ _ => ⟨rfl, rfl, rfl⟩) (fun h => absurd ⟨t, ht, e⟩ h))
  · subst e
    have hbr : (¬ b < (0 : Int32) ∧ ¬ (4 : Int32) < b) := ⟨g, Int32.not_lt.mpr g2⟩
    obtain ⟨f, hf, rfl⟩ := nI_rng (z := 4) (Int32.not_lt.mp g) g2 (by decide)
    have e0 := (hC.2 t ht).1
    have hl : ¬ σ.1 (go σ.2.2 t) 0 = 0 := hl
    have hb1 : bL β t = true := by
      cases hb : bL β t with
      | false => rw [hb] at e0; exact absurd e0 hl
      | true => rfl
    obtain ⟨k64, -⟩ := cas_64 hV ht hb1
    have go : ∀ (I2 : Nat → Nat → Int32) (D2 : Nat → Nat → UInt64) (Q : j_Po), RB β I2 D2 → j_W 259 lD 0 0 0 0 33 [some (.ref 260), some (.int (nI t)), some (.int (nI f))] [] w1 (I2, D2, RR σ.2.2) Q → j_Call lD 259 [.ref 260, .int (nI t), .int (nI f)] w1 (I2, D2, RR σ.2.2) 0 0 Q := fun I2 D2 Q hB2 hq => u259r lD3 (fun k hk e _ _ => by rw [show k = t from ((nI_eqN (by omega) (by omega)).mp e).symm]; exact hq) (fun k hk e _ h => absurd (by
      rw [show k = t from ((nI_eqN (by omega) (by omega)).mp e).symm, (hB2.2 t ht).1, hb1] at h; exact h) (by decide)) (fun _ _ _ h => absurd hbr h) (fun h => absurd ⟨t, ht, rfl⟩ h)
    refine u121a hR hV hC hN hO ht hb1 lD50 ht hb1 (Nat.le_refl _) (fun J E h1 h2 h3 => ?_)
    have hNZ := csV_nz hV ht hb1 h3
    have hs : ∀ k, k < cas β t → (csV β (env β) t k).1 = 0 → Sm (csV β (env β) t k).2 := fun k hk => (h3 k hk).2
    have ref : ∀ v : Int64, v = (if f = 4 then (nI (tB (tal (csV β (env β) t) (cas β t)))).toInt64 else ansV (askV 0 f (tal (csV β (env β) t) (cas β t)))) → PEndL 259 [.int (nI t), .int (nI f)] Inv (some (.long v)) w1 (J, E, RR σ.2.2) := fun v hv => pend_tellL hT h1 (fun Q hQ => go J E Q (FRc.rb h1 hB) (a259 hV (FRc.rb h1 hB) ht hb1 (by omega) (fun K F k1 => by rw [← hv]; exact hQ K F k1)))
    have a5 : askE f (tal (csV β (env β) t) (cas β t)) < 5 := by unfold askE; split <;> (try split) <;> omega
    have ez := nI_z (w := askE f (tal (csV β (env β) t) (cas β t))) (by omega)
    refine u121b (β := β) ht (by omega) (by decide) (fun _ => isTl_k t ht) (fun _ => k64) (fun _ => by omega) (fun _ => hs) (fun _ => h2) (fun _ h => ez.mp h) (fun f4 h0 h4 => ?_) (fun f4 h0 => ref _ ?_) (fun f4 => ref _ ?_)
    · refine a121 ht (by omega) k64 hNZ h2 (ez.mp h0) h4 (ref _ ?_)
      rw [if_neg f4, ans_ask, if_pos (ez.mp h0)]
    · rw [if_neg f4, ans_ask, if_neg (fun h => h0 (ez.mpr h))]
    · rw [if_pos f4, h2.2.1]
  · subst e
    have e0 := (hC.2 t ht).1
    have hl : σ.1 (go σ.2.2 t) 0 = 0 := hl
    have hb1 : bL β t = false := by
      cases hb : bL β t with
      | false => rfl
      | true => rw [hb] at e0; exact absurd (e0.symm.trans hl) (by decide)
    have e3 : σ.1 315 t = 0 := by rw [(hB.2 t ht).1, hb1]; rfl
    have hbr : (¬ b < (0 : Int32) ∧ ¬ (4 : Int32) < b) := ⟨g, Int32.not_lt.mpr g2⟩
    exact pend_sameL hT (u259r lD3 (fun k hk e _ h => absurd (by rw [show k = t from ((nI_eqN (by omega) (by omega)).mp e).symm]; exact e3) h) (fun _ _ _ _ _ => ⟨rfl, rfl, rfl⟩) (fun _ _ _ h => absurd hbr h) (fun h => absurd ⟨t, ht, rfl⟩ h))
  · have nb : ¬ (¬ b < (0 : Int32) ∧ ¬ (4 : Int32) < b) := fun h => g2 (Int32.not_lt.mp h.2)
    exact pend_sameL hT (u259r lD3 (fun _ _ _ h => absurd h nb) (fun _ _ _ h => absurd h nb) (fun _ _ _ _ => ⟨rfl, rfl, rfl⟩) (fun h => absurd ⟨t, ht, e⟩ h))
  · exact pend_sameL hT (u259r lD3 (fun k hk e => absurd ⟨k, hk, e⟩ h) (fun k hk e => absurd ⟨k, hk, e⟩ h) (fun k hk e => absurd ⟨k, hk, e⟩ h) (fun _ => ⟨rfl, rfl, rfl⟩))
