/-! row and put on both sides -/
def fp_put : Prop := ∀ c : Int32, okD (FP.i2d c) ∧ okD (FP.ddiv (FP.i2d c) 4620693217682128896) ∧ okD (FP.f2d (FP.d2f (FP.ddiv (FP.i2d c) 4620693217682128896)))
theorem lD1 : 1 ≤ lD := by decide
theorem lD2 : 2 ≤ lD := by decide
theorem lD3 : 3 ≤ lD := by decide
theorem lD4 : 4 ≤ lD := by decide
theorem nI_rng {c : Int32} {z : Nat} (h0 : 0 ≤ c) (hz : c ≤ nI z) (hz2 : z < 2 ^ 31) : ∃ n, n ≤ z ∧ c = nI n := by
  refine ⟨c.toNatClampNeg, ?_, ?_⟩
  · have h1 := Int32.le_iff_toInt_le.mp h0
    have h2 := Int32.le_iff_toInt_le.mp hz
    rw [nI_toInt (by omega)] at h2
    have : (0 : Int32).toInt = 0 := rfl
    show c.toInt.toNat ≤ z
    omega
  · have h1 := Int32.le_iff_toInt_le.mp h0
    have h3 : (0 : Int32).toInt = 0 := rfl
    rw [h3] at h1
    apply Int32.toInt_inj.mp
    have h4 : c.toInt < 2 ^ 31 := Int32.toInt_lt c
    have h5 : c.toInt.toNat < 2 ^ 31 := by omega
    rw [show c.toNatClampNeg = c.toInt.toNat from rfl, nI_toInt h5]
    omega
theorem i_m1 {b : Int32} (h : ¬ b < -1) (h2 : b < 0) : b = -1 := by
  rw [Int32.lt_iff_toInt_lt] at h h2
  apply Int32.toInt_inj.mp
  have e1 : (-1 : Int32).toInt = -1 := rfl
  have e2 : (0 : Int32).toInt = 0 := rfl
  rw [e1] at h ⊢
  rw [e2] at h2
  omega
theorem pair_row {σ : j_I3} {a b c : Int32} (h : rowsR σ) (hR : WFR σ.2.2) : Pair 160 284 [.int a, .int b, .int c] σ (fun σ2 => rowsR σ2 ∧ same rowsP σ σ2) := by
  have bad : ∀ (v : Int32), j_Call lD 284 [.ref 260, .int a, .int b, .int c] w1 (e3 σ) 0 0 (fun r w τ => r = some (.int v) ∧ w = w1 ∧ τ = e3 σ) → ∃ (v' : Int32) (σ1 : j_I3), some (Value.int v) = some (.int v') ∧ w1 = w1 ∧ e3 σ = e3 σ1 ∧ j_Call lD 284 [.ref 260, .int a, .int b, .int c] w1 (e3 σ1) 0 0 (fun r w τ => ∃ σ2 : j_I3, r = some (.int v') ∧ w = w1 ∧ τ = e3 σ2 ∧ rowsR σ2 ∧ same rowsP σ σ2) := fun v hv => ⟨v, σ, rfl, rfl, rfl, j_Call.mono hv fun r w τ ⟨h1, h2, h3⟩ => ⟨σ, h1, h2, h3, h, same.rf⟩⟩
  have good : ∀ (r n : Nat), r < 4 → n ≤ 64 → ¬ b < -1 → b ≤ 3 → a = nI r → (b < 0 ∧ n = 0 ∨ ¬ b < 0 ∧ c = nI n) → ∃ (v' : Int32) (σ1 : j_I3), some (Value.int 1) = some (.int v') ∧ w1 = w1 ∧ ((j_fl (j_u (j_u σ.1 (248 + 3 * r) 0 b) (248 + 3 * r) 1 (nI n)) (248 + 3 * r + 2) 64 0, j_fl σ.2.1 (248 + 3 * r + 1) 64 FP.dconst0, RR σ.2.2) : j_St) = e3 σ1 ∧ j_Call lD 284 [.ref 260, .int a, .int b, .int c] w1 (e3 σ1) 0 0 (fun r w τ => ∃ σ2 : j_I3, r = some (.int v') ∧ w = w1 ∧ τ = e3 σ2 ∧ rowsR σ2 ∧ same rowsP σ σ2) := by
    intro r n hr hn hb hb3 ha hbn
    refine ⟨1, (j_fl (j_u (j_u σ.1 (248 + 3 * r) 0 b) (248 + 3 * r) 1 (nI n)) (248 + 3 * r + 2) 64 0, j_fl σ.2.1 (248 + 3 * r + 1) 64 FP.dconst0, σ.2.2), rfl, rfl, rfl, ?_⟩
    have fin : ∃ σ2 : j_I3, some (Value.int 1) = some (Value.int 1) ∧ w1 = w1 ∧ ((j_fl (j_u (j_u (j_fl (j_u (j_u σ.1 (248 + 3 * r) 0 b) (248 + 3 * r) 1 (nI n)) (248 + 3 * r + 2) 64 0) 503 r b) 504 r (nI n)) (511 + r) 64 0, j_fl (j_fl σ.2.1 (248 + 3 * r + 1) 64 FP.dconst0) (506 + r) 64 FP.dconst0, RR σ.2.2) : j_St) = e3 σ2 ∧ rowsR σ2 ∧ same rowsP σ σ2 := by
      refine ⟨_, rfl, rfl, rfl, row_new h hr hn hb hb3, fun o ho => ?_⟩
      have h1 : ¬ (248 ≤ o ∧ o < 260) := fun q => ho (Or.inl q)
      have h2 : ¬ (503 ≤ o ∧ o < 517) := fun q => ho (Or.inr q)
      refine ⟨funext fun k => ?_, funext fun k => ?_, rfl⟩
      · simp (disch := omega) only [j_u_o, j_fl_o]
      · simp (disch := omega) only [j_u_o, j_fl_o]
    refine s284e lD2 (fun k1 h1 h2 h3 h4 => ?_) (fun k1 h1 h2 h3 h4 h5 h6 => ?_) (fun k1 h1 h2 h3 h4 h5 h6 => ?_) (fun k1 h1 h2 h3 h4 h5 => ?_) (fun k1 h1 h2 h3 => ?_) (fun h1 => absurd ⟨r, hr, ha⟩ h1)
    · rcases hbn with ⟨q1, rfl⟩ | ⟨q1, -⟩
      · have e : k1 = r := (nI_eqN (by omega) (by omega)).mp (h2.symm.trans ha)
        subst e
        exact m284 hr lD2 fin
      · exact absurd h4 q1
    · rcases hbn with ⟨q1, -⟩ | ⟨-, rfl⟩
      · exact absurd q1 h4
      · have e : k1 = r := (nI_eqN (by omega) (by omega)).mp (h2.symm.trans ha)
        subst e
        exact m284 hr lD2 fin
    · rcases hbn with ⟨q1, -⟩ | ⟨-, rfl⟩
      · exact absurd q1 h4
      · exact absurd ((nI_leI (by omega) (by omega)).mpr (Nat.zero_le n)) h6
    · rcases hbn with ⟨q1, -⟩ | ⟨-, rfl⟩
      · exact absurd q1 h4
      · exact absurd ((nI_leI (by omega) (by omega)).mpr hn) h5
    · exact absurd ⟨hb, Int32.not_lt.mpr hb3⟩ h3
  refine s160 hR lD1 (fun k1 h1 h2 h3 => bad _ ?_) (fun k1 h1 h2 h3 h4 h5 => ?_) (fun k1 h1 h2 h3 h4 h5 h6 h7 => ?_) (fun k1 h1 h2 h3 h4 h5 h6 h7 => bad _ ?_) (fun k1 h1 h2 h3 h4 h5 h6 => bad _ ?_) (fun k1 h1 h2 h3 h4 => bad _ ?_) (fun h1 => bad _ ?_)
  · refine s284e lD2 (fun k1 h1 h2 h3' h4 => absurd h3 h3'.1) (fun k1 h1 h2 h3' h4 h5 h6 => absurd h3 h3'.1) (fun k1 h1 h2 h3' h4 h5 h6 => absurd h3 h3'.1) (fun k1 h1 h2 h3' h4 h5 => absurd h3 h3'.1) (fun k1 h1 h2 h3 => ⟨rfl, rfl, rfl⟩) (fun h1 => ⟨rfl, rfl, rfl⟩)
  · exact good k1 0 h1 (by omega) h3 h4 h2 (Or.inl ⟨by rw [h5]; decide, rfl⟩)
  · obtain ⟨n, hn, rfl⟩ := nI_rng (z := 64) h7 h6 (by decide)
    refine good k1 n h1 hn h3 h4 h2 (Or.inr ⟨?_, rfl⟩)
    intro q
    exact h5 (i_m1 h3 q)
  · have hb0 : ¬ b < 0 := fun q => h5 (i_m1 h3 q)
    refine s284e lD2 (fun k1 h1 h2 h3' h4 => absurd h4 hb0) (fun k1 h1 h2 h3' h4 h5 h6 => absurd h6 h7) (fun k1 h1 h2 h3' h4 h5 h6 => ⟨rfl, rfl, rfl⟩) (fun k1 h1 h2 h3' h4 h5 => absurd h6 h5) (fun k1 h1 h2 h3' => absurd ⟨h3, Int32.not_lt.mpr h4⟩ h3') (fun h1' => absurd ⟨k1, h1, h2⟩ h1')
  · have hb0 : ¬ b < 0 := fun q => h5 (i_m1 h3 q)
    refine s284e lD2 (fun k1 h1 h2 h3' h4 => absurd h4 hb0) (fun k1 h1 h2 h3' h4 h5 => absurd h5 h6) (fun k1 h1 h2 h3' h4 h5 => absurd h5 h6) (fun k1 h1 h2 h3' h4 h5 => ⟨rfl, rfl, rfl⟩) (fun k1 h1 h2 h3' => ⟨rfl, rfl, rfl⟩) (fun h1' => ⟨rfl, rfl, rfl⟩)
  · have h9 : (3 : Int32) < b := Int32.not_le.mp h4
    refine s284e lD2 (fun k1 h1 h2 h3' h4 => absurd h9 h3'.2) (fun k1 h1 h2 h3' h4 h5 h6 => absurd h9 h3'.2) (fun k1 h1 h2 h3' h4 h5 h6 => absurd h9 h3'.2) (fun k1 h1 h2 h3' h4 h5 => absurd h9 h3'.2) (fun k1 h1 h2 h3' => ⟨rfl, rfl, rfl⟩) (fun h1' => ⟨rfl, rfl, rfl⟩)
  · refine s284e lD2 (fun k1 q1 q2 h3' h4 => absurd ⟨k1, q1, q2⟩ h1) (fun k1 q1 q2 h3' h4 h5 h6 => absurd ⟨k1, q1, q2⟩ h1) (fun k1 q1 q2 h3' h4 h5 h6 => absurd ⟨k1, q1, q2⟩ h1) (fun k1 q1 q2 h3' h4 h5 => absurd ⟨k1, q1, q2⟩ h1) (fun k1 q1 q2 h3' => absurd ⟨k1, q1, q2⟩ h1) (fun h1' => ⟨rfl, rfl, rfl⟩)
