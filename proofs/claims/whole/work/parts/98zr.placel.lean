/-! asks: the place of a case, the reference's loop -/
theorem c261 {β : Bd} {I : Nat → Nat → Int32} {D : Nat → Nat → UInt64} {R : Nat → Nat → Option Nat} {Q : j_Po} (hV : BV β) (hS : RSt β I D) {η : VEnv} (hI : RIn β I D η) {d t : Nat} {l : Bool} (ht : t < 6) (hl : bL β t = true) (hd : 80 ≤ d) (hq : ∀ J E, FRr I D J E → (∀ k, k < cas β t → (csV β η t k).1 = 0 → Sm (csV β η t k).2) → Q (some (.int (plV l (wd β t) (tal (csV β η t) (cas β t))))) w1 (J, E, RR R)) : j_Call d 261 [.ref 260, .int (nI t), .int (bi l)] w1 (I, D, RR R) 0 0 Q := by
  obtain ⟨k64, kw, k8, kc⟩ := cas_64 hV ht hl
  obtain ⟨-, -, s3, s4, s5, -⟩ := (hS.2 t ht).2 hl
  obtain ⟨-, -, -, v4, v5, w6, -⟩ := hV.2.1 t ht hl
  have inner : ∀ (i : Nat), i < bm β t → (∀ (J : Nat → Nat → Int32) (E : Nat → Nat → UInt64) (x : UInt64), FRr I D J E → (∀ k, k < (i + 1) * wd β t → (csV β η t k).1 = 0 → Sm (csV β η t k).2) → (¬ tG (tal (csV β η t) ((i + 1) * wd β t)) = 0 → x = plX l (tal (csV β η t) ((i + 1) * wd β t))) → j_W 261 d 0 0 0 0 34 [some (.ref 260), some (.int (nI t)), some (.int (bi l)), some (.int (plV l (wd β t) (tal (csV β η t) ((i + 1) * wd β t)))), some (.double x), none, some (.int (nI (wd β t))), some (.int (nI (i + 1))), none] [] w1 (J, E, RR R) Q) →
      ∀ (m j : Nat) (J : Nat → Nat → Int32) (E : Nat → Nat → UInt64) (x : UInt64), m + j = wd β t → FRr I D J E → (∀ k, k < i * wd β t + j → (csV β η t k).1 = 0 → Sm (csV β η t k).2) → (¬ tG (tal (csV β η t) (i * wd β t + j)) = 0 → x = plX l (tal (csV β η t) (i * wd β t + j))) → j_W 261 d 0 0 0 0 50 [some (.ref 260), some (.int (nI t)), some (.int (bi l)), some (.int (plV l (wd β t) (tal (csV β η t) (i * wd β t + j)))), some (.double x), none, some (.int (nI (wd β t))), some (.int (nI i)), some (.int (nI j))] [] w1 (J, E, RR R) Q := by
    intro i hi hend m
    have hle : (i + 1) * wd β t ≤ bm β t * wd β t := Nat.mul_le_mul_right _ hi
    have hsucc : (i + 1) * wd β t = i * wd β t + wd β t := Nat.succ_mul _ _
    induction m with
    | zero =>
      intro j J E x hj hG hsm hx
      have hjw : j = wd β t := by omega
      subst hjw
      refine u261i (by omega) (by omega) (by omega) (fun _ => ?_) (fun h => absurd (Nat.le_refl _) h)
      refine u261k (by omega) (by omega) ?_
      rw [← hsucc] at hx hsm ⊢
      exact hend J E x hG hsm hx
    | succ m ih =>
      intro j J E x hj hG hsm hx
      have hok := tal_ok (v := csV β η t) (n := i * wd β t + j) hsm
      have ecs : csV β η t (i * wd β t + j) = val β (supV β η t i j) (bO β t) := by
        unfold csV
        rw [show (i * wd β t + j) / wd β t = i by rw [Nat.mul_comm, Nat.mul_add_div (by omega), Nat.div_eq_of_lt (by omega), Nat.add_zero], show (i * wd β t + j) % wd β t = j by rw [Nat.mul_comm, Nat.mul_add_mod, Nat.mod_eq_of_lt (by omega)]]
      refine u261i (by omega) (by omega) (by omega) (fun h => absurd h (by omega)) (fun _ => ?_)
      refine u261c (AP := fun J2 E2 => FRr J E J2 E2 ∧ VQ (J2 260 31) (J2 260 32) (E2 260 30) (csV β η t (i * wd β t + j))) (fun Q2 hq2 => c257 (η := η) hV (hG.st hS) (hG.inp hI) ht hl hi (by omega) (by omega) (fun J2 E2 g1 g3 => hq2 J2 E2 ⟨g1, by rw [ecs]; exact g3⟩)) (by omega) (fun J2 E2 hA => ?_)
      obtain ⟨g1, g3⟩ := hA
      obtain ⟨o1, -, o3, o4, o5, o6⟩ := hok
      refine c261s (by omega) (by omega) k8 g3 (by unfold plK; split <;> omega) (fun hg => ⟨hx hg, by unfold plX; split <;> assumption⟩) (by omega) (fun x' hx' => ?_)
      exact ih (j + 1) J2 E2 x' (by omega) (hG.tr g1) (fun k hk h0 => by
        by_cases e : k = i * wd β t + j
        · rw [e] at h0 ⊢
          obtain ⟨x1, x2⟩ := g3.2.2.1 h0
          rw [← x1]; exact x2
        · exact hsm k (by omega) h0) hx'
  have outer : ∀ (m i : Nat) (J : Nat → Nat → Int32) (E : Nat → Nat → UInt64) (x : UInt64), m + i = bm β t → FRr I D J E → (∀ k, k < i * wd β t → (csV β η t k).1 = 0 → Sm (csV β η t k).2) → (¬ tG (tal (csV β η t) (i * wd β t)) = 0 → x = plX l (tal (csV β η t) (i * wd β t))) → j_W 261 d 0 0 0 0 34 [some (.ref 260), some (.int (nI t)), some (.int (bi l)), some (.int (plV l (wd β t) (tal (csV β η t) (i * wd β t)))), some (.double x), none, some (.int (nI (wd β t))), some (.int (nI i)), none] [] w1 (J, E, RR R) Q := by
    intro m
    induction m with
    | zero =>
      intro i J E x hi hG hsm hx
      have him : i = bm β t := by omega
      subst him
      have e319 : J 319 (2 * t) = nI (bm β t) := by rw [hG.1 319 (by unfold qI; omega)]; exact s4
      rw [← kc] at hsm ⊢
      exact u261h ht e319 w6 w6 (by omega) (fun _ => hq J E hG hsm) (fun h => absurd (Nat.le_refl _) h)
    | succ m ih =>
      intro i J E x hi hG hsm hx
      have e319 : J 319 (2 * t) = nI (bm β t) := by rw [hG.1 319 (by unfold qI; omega)]; exact s4
      refine u261h ht e319 w6 (by omega) (by omega) (fun h => absurd h (by omega)) (fun _ => ?_)
      exact inner i (by omega) (fun J2 E2 x2 a1 a2 a3 => ih (i + 1) J2 E2 x2 (by omega) a1 a2 a3) (wd β t) 0 J E x rfl hG hsm hx
  have start : j_W 261 d 0 0 0 0 31 [some (.ref 260), some (.int (nI t)), some (.int (bi l)), some (.int (-1)), some (.double FP.dconst0), none, some (.int (nI (wd β t))), none, none] [] w1 (I, D, RR R) Q := by
    have := outer (bm β t) 0 I D FP.dconst0 rfl FRr.refl (fun k hk => absurd hk (by rw [Nat.zero_mul]; exact Nat.not_lt_zero k)) (fun h => absurd (by rw [Nat.zero_mul]; rfl) h)
    rw [Nat.zero_mul] at this
    exact u261b (by omega) this
  refine u261a ht (by omega) (fun h => ?_) (fun h => ?_)
  · cases hb2 : b2 β t with
    | none => rw [hb2] at s3; exact absurd s3 h
    | some o =>
      have : wd β t = bn β t := by unfold wd; rw [hb2, if_neg (fun h => by cases h)]
      rw [s5, ← this]; exact start
  · cases hb2 : b2 β t with
    | none =>
      have : wd β t = 1 := by unfold wd; rw [hb2, if_pos rfl]
      rw [this] at start; exact start
    | some o =>
      rw [hb2] at s3
      exact absurd (s3.symm.trans h) (nI_ne_m1 (by have := (v4 o hb2).1; omega))
