/-! row and put on both sides -/
def fp_put : Prop := ∀ c : Int32, okD (FP.i2d c) ∧ okD (FP.ddiv (FP.i2d c) 4620693217682128896) ∧ okD (FP.f2d (FP.d2f (FP.ddiv (FP.i2d c) 4620693217682128896)))
theorem lD1 : 1 ≤ lD := by decide
theorem lD2 : 2 ≤ lD := by decide
theorem lD3 : 3 ≤ lD := by decide
theorem lD4 : 4 ≤ lD := by decide
theorem nI_rng {c : Int32} {z : Nat} (h0 : 0 ≤ c) (hz : c ≤ nI z) (hz2 : z < 2 ^ 31) : ∃ n, n ≤ z ∧ c = nI n := by
  refine ⟨c.toNatClampNeg, ?_, ?_⟩
  · have h1 := Int32.le_iff_toInt_le.mp h0
    have h2 := Int32.le_iff_toInt_le.mp hz
    rw [nI_toInt (by omega)] at h2
    have : (0 : Int32).toInt = 0 := rfl
    show c.toInt.toNat ≤ z
    omega
  · have h1 := Int32.le_iff_toInt_le.mp h0
    have h3 : (0 : Int32).toInt = 0 := rfl
    rw [h3] at h1
    apply Int32.toInt_inj.mp
    have h4 : c.toInt < 2 ^ 31 := Int32.toInt_lt c
    have h5 : c.toInt.toNat < 2 ^ 31 := by omega
    rw [show c.toNatClampNeg = c.toInt.toNat from rfl, nI_toInt h5]
    omega
theorem i_m1 {b : Int32} (h : ¬ b < -1) (h2 : b < 0) : b = -1 := by
  rw [Int32.lt_iff_toInt_lt] at h h2
  apply Int32.toInt_inj.mp
  have e1 : (-1 : Int32).toInt = -1 := rfl
  have e2 : (0 : Int32).toInt = 0 := rfl
  rw [e1] at h ⊢
  rw [e2] at h2
  omega
theorem pair_row {σ : j_I3} {a b c : Int32} (h : rowsR σ) (hR : WFR σ.2.2) : Pair 160 284 [.int a, .int b, .int c] σ (fun σ2 => rowsR σ2 ∧ same rowsP σ σ2) := by
  have bad : ∀ (v : Int32), j_Call lD 284 [.ref 260, .int a, .int b, .int c] w1 (e3 σ) 0 0 (fun r w τ => r = some (.int v) ∧ w = w1 ∧ τ = e3 σ) → ∃ (v' : Int32) (σ1 : j_I3), some (Value.int v) = some (.int v') ∧ w1 = w1 ∧ e3 σ = e3 σ1 ∧ j_Call lD 284 [.ref 260, .int a, .int b, .int c] w1 (e3 σ1) 0 0 (fun r w τ => ∃ σ2 : j_I3, r = some (.int v') ∧ w = w1 ∧ τ = e3 σ2 ∧ rowsR σ2 ∧ same rowsP σ σ2) := fun v hv => ⟨v, σ, rfl, rfl, rfl, j_Call.mono hv fun r w τ ⟨h1, h2, h3⟩ => ⟨σ, h1, h2, h3, h, same.rf⟩⟩
  have good : ∀ (r n : Nat), r < 4 → n ≤ 64 → ¬ b < -1 → b ≤ 3 → a = nI r → (b < 0 ∧ n = 0 ∨ ¬ b < 0 ∧ c = nI n) → ∃ (v' : Int32) (σ1 : j_I3), some (Value.int 1) = some (.int v') ∧ w1 = w1 ∧ ((j_fl (j_u (j_u σ.1 (248 + 3 * r) 0 b) (248 + 3 * r) 1 (nI n)) (248 + 3 * r + 2) 64 0, j_fl σ.2.1 (248 + 3 * r + 1) 64 FP.dconst0, RR σ.2.2) : j_St) = e3 σ1 ∧ j_Call lD 284 [.ref 260, .int a, .int b, .int c] w1 (e3 σ1) 0 0 (fun r w τ => ∃ σ2 : j_I3, r = some (.int v') ∧ w = w1 ∧ τ = e3 σ2 ∧ rowsR σ2 ∧ same rowsP σ σ2) := by
    intro r n hr hn hb hb3 ha hbn
    refine ⟨1, (j_fl (j_u (j_u σ.1 (248 + 3 * r) 0 b) (248 + 3 * r) 1 (nI n)) (248 + 3 * r + 2) 64 0, j_fl σ.2.1 (248 + 3 * r + 1) 64 FP.dconst0, σ.2.2), rfl, rfl, rfl, ?_⟩
    have fin : ∃ σ2 : j_I3, some (Value.int 1) = some (Value.int 1) ∧ w1 = w1 ∧ ((j_fl (j_u (j_u (j_fl (j_u (j_u σ.1 (248 + 3 * r) 0 b) (248 + 3 * r) 1 (nI n)) (248 + 3 * r + 2) 64 0) 503 r b) 504 r (nI n)) (511 + r) 64 0, j_fl (j_fl σ.2.1 (248 + 3 * r + 1) 64 FP.dconst0) (506 + r) 64 FP.dconst0, RR σ.2.2) : j_St) = e3 σ2 ∧ rowsR σ2 ∧ same rowsP σ σ2 := by
      refine ⟨_, rfl, rfl, rfl, row_new h hr hn hb hb3, fun o ho => ?_⟩
      have h1 : ¬ (248 ≤ o ∧ o < 260) := fun q => ho (Or.inl q)
      have h2 : ¬ (503 ≤ o ∧ o < 517) := fun q => ho (Or.inr q)
      refine ⟨funext fun k => ?_, funext fun k => ?_, rfl⟩
      · simp (disch := omega) only [j_u_o, j_fl_o]
      · simp (disch := omega) only [j_u_o, j_fl_o]
    refine s284e lD2 (fun k1 h1 h2 h3 h4 => ?_) (fun k1 h1 h2 h3 h4 h5 h6 => ?_) (fun k1 h1 h2 h3 h4 h5 h6 => ?_) (fun k1 h1 h2 h3 h4 h5 => ?_) (fun k1 h1 h2 h3 => ?_) (fun h1 => absurd ⟨r, hr, ha⟩ h1)
    · rcases hbn with ⟨q1, rfl⟩ | ⟨q1, -⟩
      · have e : k1 = r := (nI_eqN (by omega) (by omega)).mp (h2.symm.trans ha)
        subst e
        exact m284 hr lD2 fin
      · exact absurd h4 q1
    · rcases hbn with ⟨q1, -⟩ | ⟨-, rfl⟩
      · exact absurd q1 h4
      · have e : k1 = r := (nI_eqN (by omega) (by omega)).mp (h2.symm.trans ha)
        subst e
        exact m284 hr lD2 fin
    · rcases hbn with ⟨q1, -⟩ | ⟨-, rfl⟩
      · exact absurd q1 h4
      · exact absurd ((nI_leI (by omega) (by omega)).mpr (Nat.zero_le n)) h6
    · rcases hbn with ⟨q1, -⟩ | ⟨-, rfl⟩
      · exact absurd q1 h4
      · exact absurd ((nI_leI (by omega) (by omega)).mpr hn) h5
    · exact absurd ⟨hb, Int32.not_lt.mpr hb3⟩ h3
  refine s160 hR lD1 (fun k1 h1 h2 h3 => bad _ ?_) (fun k1 h1 h2 h3 h4 h5 => ?_) (fun k1 h1 h2 h3 h4 h5 h6 h7 => ?_) (fun k1 h1 h2 h3 h4 h5 h6 h7 => bad _ ?_) (fun k1 h1 h2 h3 h4 h5 h6 => bad _ ?_) (fun k1 h1 h2 h3 h4 => bad _ ?_) (fun h1 => bad _ ?_)
  · refine s284e lD2 (fun k1 h1 h2 h3' h4 => absurd h3 h3'.1) (fun k1 h1 h2 h3' h4 h5 h6 => absurd h3 h3'.1) (fun k1 h1 h2 h3' h4 h5 h6 => absurd h3 h3'.1) (fun k1 h1 h2 h3' h4 h5 => absurd h3 h3'.1) (fun k1 h1 h2 h3 => ⟨rfl, rfl, rfl⟩) (fun h1 => ⟨rfl, rfl, rfl⟩)
  · exact good k1 0 h1 (by omega) h3 h4 h2 (Or.inl ⟨by rw [h5]; decide, rfl⟩)
  · obtain ⟨n, hn, rfl⟩ := nI_rng (z := 64) h7 h6 (by decide)
    refine good k1 n h1 hn h3 h4 h2 (Or.inr ⟨?_, rfl⟩)
    intro q
    exact h5 (i_m1 h3 q)
  · have hb0 : ¬ b < 0 := fun q => h5 (i_m1 h3 q)
    refine s284e lD2 (fun k1 h1 h2 h3' h4 => absurd h4 hb0) (fun k1 h1 h2 h3' h4 h5 h6 => absurd h6 h7) (fun k1 h1 h2 h3' h4 h5 h6 => ⟨rfl, rfl, rfl⟩) (fun k1 h1 h2 h3' h4 h5 => absurd h6 h5) (fun k1 h1 h2 h3' => absurd ⟨h3, Int32.not_lt.mpr h4⟩ h3') (fun h1' => absurd ⟨k1, h1, h2⟩ h1')
  · have hb0 : ¬ b < 0 := fun q => h5 (i_m1 h3 q)
    refine s284e lD2 (fun k1 h1 h2 h3' h4 => absurd h4 hb0) (fun k1 h1 h2 h3' h4 h5 => absurd h5 h6) (fun k1 h1 h2 h3' h4 h5 => absurd h5 h6) (fun k1 h1 h2 h3' h4 h5 => ⟨rfl, rfl, rfl⟩) (fun k1 h1 h2 h3' => ⟨rfl, rfl, rfl⟩) (fun h1' => ⟨rfl, rfl, rfl⟩)
  · have h9 : (3 : Int32) < b := Int32.not_le.mp h4
    refine s284e lD2 (fun k1 h1 h2 h3' h4 => absurd h9 h3'.2) (fun k1 h1 h2 h3' h4 h5 h6 => absurd h9 h3'.2) (fun k1 h1 h2 h3' h4 h5 h6 => absurd h9 h3'.2) (fun k1 h1 h2 h3' h4 h5 => absurd h9 h3'.2) (fun k1 h1 h2 h3' => ⟨rfl, rfl, rfl⟩) (fun h1' => ⟨rfl, rfl, rfl⟩)
  · refine s284e lD2 (fun k1 q1 q2 h3' h4 => absurd ⟨k1, q1, q2⟩ h1) (fun k1 q1 q2 h3' h4 h5 h6 => absurd ⟨k1, q1, q2⟩ h1) (fun k1 q1 q2 h3' h4 h5 h6 => absurd ⟨k1, q1, q2⟩ h1) (fun k1 q1 q2 h3' h4 h5 => absurd ⟨k1, q1, q2⟩ h1) (fun k1 q1 q2 h3' => absurd ⟨k1, q1, q2⟩ h1) (fun h1' => ⟨rfl, rfl, rfl⟩)
def PEnd (j : Nat) (av : List Value) (T : j_I3 → Prop) : j_Po := fun r w τ => ∃ (v : Int32) (σ1 : j_I3), r = some (.int v) ∧ w = w1 ∧ τ = e3 σ1 ∧ j_Call lD j (.ref 260 :: av) w1 (e3 σ1) 0 0 (fun r w τ => ∃ σ2 : j_I3, r = some (.int v) ∧ w = w1 ∧ τ = e3 σ2 ∧ T σ2)
def PEndL (j : Nat) (av : List Value) (T : j_I3 → Prop) : j_Po := fun r w τ => ∃ (v : Int64) (σ1 : j_I3), r = some (.long v) ∧ w = w1 ∧ τ = e3 σ1 ∧ j_Call lD j (.ref 260 :: av) w1 (e3 σ1) 0 0 (fun r w τ => ∃ σ2 : j_I3, r = some (.long v) ∧ w = w1 ∧ τ = e3 σ2 ∧ T σ2)
def PairL (i j : Nat) (av : List Value) (σ : j_I3) (T : j_I3 → Prop) : Prop := j_Call lD i (.ref 0 :: av) w1 (e3 σ) 0 0 (PEndL j av T)
/-- nothing is changed and both answer v -/
theorem pend_same {j : Nat} {av : List Value} {T : j_I3 → Prop} {σ : j_I3} {v : Int32} (h : T σ) (hv : j_Call lD j (.ref 260 :: av) w1 (e3 σ) 0 0 (fun r w τ => r = some (.int v) ∧ w = w1 ∧ τ = e3 σ)) : PEnd j av T (some (.int v)) w1 (σ.1, σ.2.1, RR σ.2.2) :=
  ⟨v, σ, rfl, rfl, rfl, j_Call.mono hv fun r w τ ⟨h1, h2, h3⟩ => ⟨σ, h1, h2, h3, h⟩⟩
theorem pend_sameL {j : Nat} {av : List Value} {T : j_I3 → Prop} {σ : j_I3} {v : Int64} (h : T σ) (hv : j_Call lD j (.ref 260 :: av) w1 (e3 σ) 0 0 (fun r w τ => r = some (.long v) ∧ w = w1 ∧ τ = e3 σ)) : PEndL j av T (some (.long v)) w1 (σ.1, σ.2.1, RR σ.2.2) :=
  ⟨v, σ, rfl, rfl, rfl, j_Call.mono hv fun r w τ ⟨h1, h2, h3⟩ => ⟨σ, h1, h2, h3, h⟩⟩
/-- both change what they change -/
theorem pend_to {j : Nat} {av : List Value} {T : j_I3 → Prop} {v : Int32} {I1 I2 : Nat → Nat → Int32} {D1 D2 : Nat → Nat → UInt64} {R1 R2 : Nat → Nat → Option Nat} (h : T (I2, D2, R2)) (hv : j_Call lD j (.ref 260 :: av) w1 (I1, D1, RR R1) 0 0 (fun r w τ => r = some (.int v) ∧ w = w1 ∧ τ = (I2, D2, RR R2))) : PEnd j av T (some (.int v)) w1 (I1, D1, RR R1) :=
  ⟨v, (I1, D1, R1), rfl, rfl, rfl, j_Call.mono hv fun r w τ ⟨h1, h2, h3⟩ => ⟨(I2, D2, R2), h1, h2, h3, h⟩⟩
def asS (s c : Int32) : UInt64 := if s = 0 then FP.i2d c.toInt8.toInt32 else if s = 1 then FP.i2d c else if s = 2 then FP.f2d (FP.d2f (FP.ddiv (FP.i2d c) 4620693217682128896)) else FP.ddiv (FP.i2d c) 4620693217682128896
theorem asS_ok (hF : fp_put) (s c : Int32) : okD (asS s c) := by
  unfold asS
  split
  · exact (hF _).1
  · split
    · exact (hF _).1
    · split
      · exact (hF _).2.2
      · exact (hF _).2.1
theorem i_out {n : Nat} {b : Int32} (hn : n ≤ 64) : (¬ b < 0 ∧ ¬ (nI n - 1) < b) ↔ ∃ i, i < n ∧ b = nI i := by
  have e1 : (1 : Int32) = nI 1 := rfl
  constructor
  · rintro ⟨h1, h2⟩
    obtain ⟨i, hi, rfl⟩ := nI_of h1
    refine ⟨i, ?_, rfl⟩
    rw [Int32.lt_iff_toInt_lt, e1, pk_sub_toInt (by omega) (by omega), nI_toInt hi] at h2
    omega
  · rintro ⟨i, hi, rfl⟩
    refine ⟨fun h => ?_, fun h => ?_⟩
    · exact absurd ((nI_ltI (b := 0) (by omega) (by omega)).mp h) (by omega)
    · rw [Int32.lt_iff_toInt_lt, e1, pk_sub_toInt (by omega) (by omega), nI_toInt (by omega)] at h
      omega
section R285
variable {d : Nat} {I : Nat → Nat → Int32} {D : Nat → Nat → UInt64} {R : Nat → Nat → Option Nat} {Q : j_Po}
theorem f285 {r i n : Nat} {c : Int32} (hr : r < 4) (hi : i < n) (hn : n ≤ 64) (h503 : 0 ≤ I 503 r) (h504 : I 504 r = nI n) (hd : 3 ≤ d) (hq : Q (some (.int 1)) w1 (j_u I (511 + r) i 0, j_u D (506 + r) i (asS (I 503 r) c), RR R)) : j_Call d 285 [.ref 260, .int (nI r), .int (nI i), .int c] w1 (I, D, RR R) 0 0 Q := by
  have hin : vp_in (nI i) 64 := vp_in_nI (by omega) (by omega)
  have hc : (nI i).toNatClampNeg = i := nI_clamp (by omega)
  have hb := (i_out (b := nI i) hn).mpr ⟨i, hi, rfl⟩
  rw [← h504] at hb
  have er : ∀ u, u < 4 → nI r = nI u → u = r := fun u hu h => ((nI_eqN (by omega) (by omega)).mp h).symm
  refine s285 hd (fun _ _ _ _ _ _ _ _ => hin) (fun u h1 h2 h3 h4 h5 h6 h7 => ?_) (fun _ _ _ _ _ _ _ _ => hin) (fun u h1 h2 h3 h4 h5 h6 h7 => ?_) (fun _ _ _ _ _ _ _ => hin) (fun u h1 h2 h3 h4 h5 h6 => ?_) (fun _ _ _ _ _ _ => hin) (fun u h1 h2 h3 h4 h5 => ?_) (fun u h1 h2 h3 h4 => ?_) (fun u h1 h2 h3 => ?_) (fun h => absurd ⟨r, hr, rfl⟩ h)
  · obtain rfl := er u h1 h2
    rw [hc]; unfold asS at hq; rw [if_neg h5, if_neg h6, if_neg h7] at hq; exact hq
  · obtain rfl := er u h1 h2
    rw [hc]; unfold asS at hq; rw [if_neg h5, if_neg h6, if_pos h7] at hq; exact hq
  · obtain rfl := er u h1 h2
    rw [hc]; unfold asS at hq; rw [if_neg h5, if_pos h6] at hq; exact hq
  · obtain rfl := er u h1 h2
    rw [hc]; unfold asS at hq; rw [if_pos h5] at hq; exact hq
  · obtain rfl := er u h1 h2
    exact absurd hb h4
  · obtain rfl := er u h1 h2
    exact absurd h503 h3
theorem f285o {r n : Nat} {b c : Int32} (hr : r < 4) (hn : n ≤ 64) (hb : ¬ ∃ i, i < n ∧ b = nI i) (h503 : 0 ≤ I 503 r) (h504 : I 504 r = nI n) (hd : 3 ≤ d) (hq : Q (some (.int (-12))) w1 (I, D, RR R)) : j_Call d 285 [.ref 260, .int (nI r), .int b, .int c] w1 (I, D, RR R) 0 0 Q := by
  have hb2 := mt (i_out (b := b) hn).mp hb
  rw [← h504] at hb2
  have er : ∀ u, u < 4 → nI r = nI u → u = r := fun u hu h => ((nI_eqN (by omega) (by omega)).mp h).symm
  have no : ∀ {P : Prop} u, u < 4 → nI r = nI u → (¬ b < 0 ∧ ¬ (I 504 u - 1) < b) → P := fun u h1 h2 h4 => by
    obtain rfl := er u h1 h2
    exact absurd h4 hb2
  refine s285 hd (fun u h1 h2 h3 h4 _ _ _ => no u h1 h2 h4) (fun u h1 h2 h3 h4 h5 h6 h7 => no u h1 h2 h4) (fun u h1 h2 h3 h4 _ _ _ => no u h1 h2 h4) (fun u h1 h2 h3 h4 h5 h6 h7 => no u h1 h2 h4) (fun u h1 h2 h3 h4 _ _ => no u h1 h2 h4) (fun u h1 h2 h3 h4 h5 h6 => no u h1 h2 h4) (fun u h1 h2 h3 h4 _ => no u h1 h2 h4) (fun u h1 h2 h3 h4 h5 => no u h1 h2 h4) (fun u h1 h2 h3 h4 => hq) (fun u h1 h2 h3 => ?_) (fun h => absurd ⟨r, hr, rfl⟩ h)
  obtain rfl := er u h1 h2
  exact absurd h503 h3
theorem f285g {r : Nat} {b c : Int32} (hr : r < 4) (h503 : ¬ 0 ≤ I 503 r) (hd : 3 ≤ d) (hq : Q (some (.int (-11))) w1 (I, D, RR R)) : j_Call d 285 [.ref 260, .int (nI r), .int b, .int c] w1 (I, D, RR R) 0 0 Q := by
  have no : ∀ {P : Prop} u, u < 4 → nI r = nI u → 0 ≤ I 503 u → P := fun u h1 h2 h4 => by
    obtain rfl := (nI_eqN (by omega) (by omega)).mp h2
    exact absurd h4 h503
  exact s285 hd (fun u h1 h2 h3 h4 _ _ _ => no u h1 h2 h3) (fun u h1 h2 h3 h4 h5 h6 h7 => no u h1 h2 h3) (fun u h1 h2 h3 h4 _ _ _ => no u h1 h2 h3) (fun u h1 h2 h3 h4 h5 h6 h7 => no u h1 h2 h3) (fun u h1 h2 h3 h4 _ _ => no u h1 h2 h3) (fun u h1 h2 h3 h4 h5 h6 => no u h1 h2 h3) (fun u h1 h2 h3 h4 _ => no u h1 h2 h3) (fun u h1 h2 h3 h4 h5 => no u h1 h2 h3) (fun u h1 h2 h3 h4 => no u h1 h2 h3) (fun u h1 h2 h3 => hq) (fun h => absurd ⟨r, hr, rfl⟩ h)
theorem f285b {a b c : Int32} (ha : ¬ ∃ k : Nat, k < 4 ∧ a = nI k) (hd : 3 ≤ d) (hq : Q (some (.int (-2))) w1 (I, D, RR R)) : j_Call d 285 [.ref 260, .int a, .int b, .int c] w1 (I, D, RR R) 0 0 Q := by
  have no : ∀ {P : Prop} u, u < 4 → a = nI u → P := fun u h1 h2 => absurd ⟨u, h1, h2⟩ ha
  exact s285 hd (fun u h1 h2 h3 h4 _ _ _ => no u h1 h2) (fun u h1 h2 h3 h4 h5 h6 h7 => no u h1 h2) (fun u h1 h2 h3 h4 _ _ _ => no u h1 h2) (fun u h1 h2 h3 h4 h5 h6 h7 => no u h1 h2) (fun u h1 h2 h3 h4 _ _ => no u h1 h2) (fun u h1 h2 h3 h4 h5 h6 => no u h1 h2) (fun u h1 h2 h3 h4 _ => no u h1 h2) (fun u h1 h2 h3 h4 h5 => no u h1 h2) (fun u h1 h2 h3 h4 => no u h1 h2) (fun u h1 h2 h3 => no u h1 h2) (fun h => hq)
end R285
theorem sort_neg {x : Int32} (h : ¬ x < -1) : (x = -1 ↔ ¬ 0 ≤ x) := by
  constructor
  · rintro rfl; decide
  · intro h2; exact i_m1 h (Int32.not_le.mp h2)
theorem pair_put (hF : fp_put) {σ : j_I3} {a b c : Int32} (h : rowsR σ) (hR : WFR σ.2.2) : Pair 161 285 [.int a, .int b, .int c] σ (fun σ2 => rowsR σ2 ∧ same rowsP σ σ2) := by
  show j_Call lD 161 [.ref 0, .int a, .int b, .int c] w1 (σ.1, σ.2.1, RR σ.2.2) 0 0 (PEnd 285 [.int a, .int b, .int c] _)
  by_cases ha : ∃ k : Nat, k < 4 ∧ a = nI k
  · obtain ⟨r, hr, rfl⟩ := ha
    obtain ⟨n, hn, hs1, hs3, hs, hz, hz2, hit⟩ := h r hr
    have er : ∀ u, u < 4 → nI r = nI u → u = r := fun u hu h => ((nI_eqN (by omega) (by omega)).mp h).symm
    by_cases hm : σ.1 503 r = -1
    · have hc : ∀ {P : Prop} u, u < 4 → nI r = nI u → ¬ σ.1 (248 + 3 * u) 0 = -1 → P := fun u h1 h2 h3 => by
        obtain rfl := er u h1 h2
        exact absurd (hs.trans hm) h3
      exact s161 hR lD1 (fun u h1 h2 h3 h4 => hc u h1 h2 h3) (fun u h1 h2 h3 h4 h5 => hc u h1 h2 h3) (fun u h1 h2 h3 h4 h5 h6 => hc u h1 h2 h3) (fun u h1 h2 h3 h4 h5 h6 h7 => hc u h1 h2 h3) (fun u h1 h2 h3 h4 h5 h6 h7 => hc u h1 h2 h3) (fun u h1 h2 h3 h4 h5 h6 h7 h8 => hc u h1 h2 h3) (fun u h1 h2 h3 h4 h5 h6 h7 h8 => hc u h1 h2 h3) (fun u h1 h2 h3 h4 h5 h6 h7 h8 h9 => hc u h1 h2 h3) (fun u h1 h2 h3 h4 h5 h6 h7 h8 h9 => hc u h1 h2 h3) (fun u h1 h2 h3 h4 h5 h6 h7 h8 h9 => hc u h1 h2 h3) (fun u h1 h2 h3 h4 h5 h6 h7 h8 h9 => hc u h1 h2 h3)
        (fun u h1 h2 h3 => pend_same ⟨h, same.rf⟩ (f285g hr ((sort_neg hs1).mp hm) lD3 ⟨rfl, rfl, rfl⟩)) (fun h => absurd ⟨r, hr, rfl⟩ h)
    · have h0 : 0 ≤ σ.1 503 r := Classical.not_not.mp (mt (sort_neg hs1).mpr hm)
      by_cases hb : ∃ i, i < n ∧ b = nI i
      · obtain ⟨i, hi, rfl⟩ := hb
        have hin : vp_in (nI i) 64 := vp_in_nI (by omega) (by omega)
        have hc : (nI i).toNatClampNeg = i := nI_clamp (by omega)
        obtain ⟨hb1, hb2⟩ := (i_out (b := nI i) hn).mpr ⟨i, hi, rfl⟩
        rw [← hz] at hb2
        have fin : PEnd 285 [.int (nI r), .int (nI i), .int c] (fun σ2 => rowsR σ2 ∧ same rowsP σ σ2) (some (.int 1)) w1 ((j_u σ.1 ((248 + 3 * r) + 2) i 0), (j_u σ.2.1 ((248 + 3 * r) + 1) i (asS (σ.1 (248 + 3 * r) 0) c)), RR σ.2.2) := by
          refine pend_to (I2 := j_u (j_u σ.1 ((248 + 3 * r) + 2) i 0) (511 + r) i 0) (D2 := j_u (j_u σ.2.1 ((248 + 3 * r) + 1) i (asS (σ.1 (248 + 3 * r) 0) c)) (506 + r) i (asS (σ.1 503 r) c)) (R2 := σ.2.2) ⟨rowsR.one h (r := r) ⟨n, hn, ?_⟩ (fun k hk => ?_) (fun o ho _ h1 h2 h3 h4 h5 h6 h7 => ?_) hr, fun o ho => ?_⟩ (f285 hr hi hn ?_ ?_ lD3 ?_)
          · simp (disch := omega) only [j_u_o]
            refine ⟨hs1, hs3, hs, hz, hz2, fun k hk => ?_⟩
            by_cases e : k = i
            · subst e
              simp (disch := omega) only [j_u_o, j_u_same]
              exact ⟨trivial, Or.inl trivial, fun _ => ⟨by rw [hs], asS_ok hF _ _⟩⟩
            · simp (disch := omega) only [j_u_o, j_u_k]
              exact hit k hk
          · simp (disch := omega) only [j_u_o]
            exact ⟨trivial, trivial⟩
          · exact ⟨funext fun k => by simp (disch := omega) only [j_u_o], funext fun k => by simp (disch := omega) only [j_u_o]⟩
          · have h1 : ¬ (248 ≤ o ∧ o < 260) := fun q => ho (Or.inl q)
            have h2 : ¬ (503 ≤ o ∧ o < 517) := fun q => ho (Or.inr q)
            exact ⟨funext fun k => by simp (disch := omega) only [j_u_o], funext fun k => by simp (disch := omega) only [j_u_o], rfl⟩
          · simp (disch := omega) only [j_u_o]
            exact h0
          · simp (disch := omega) only [j_u_o]
            exact hz2
          · simp (disch := omega) only [j_u_o]
            exact ⟨trivial, trivial, trivial⟩
        refine s161 hR lD1 (fun u h1 h2 h3 h4 => ?_) (fun u h1 h2 h3 h4 h5 => absurd h5 hb1) (fun u h1 h2 h3 h4 h5 h6 => ?_) (fun u h1 h2 h3 h4 h5 h6 h7 => hin) (fun u h1 h2 h3 h4 h5 h6 h7 => ?_) (fun u h1 h2 h3 h4 h5 h6 h7 h8 => hin) (fun u h1 h2 h3 h4 h5 h6 h7 h8 => ?_) (fun u h1 h2 h3 h4 h5 h6 h7 h8 h9 => hin) (fun u h1 h2 h3 h4 h5 h6 h7 h8 h9 => ?_) (fun u h1 h2 h3 h4 h5 h6 h7 h8 h9 => hin) (fun u h1 h2 h3 h4 h5 h6 h7 h8 h9 => ?_) (fun u h1 h2 h3 => ?_) (fun h => absurd ⟨r, hr, rfl⟩ h)
        · obtain rfl := er u h1 h2
          rw [hz] at h4
          exact absurd ((nI_ltI (b := 1) (by omega) (by omega)).mp h4) (by omega)
        · obtain rfl := er u h1 h2
          exact absurd h6 hb2
        · obtain rfl := er u h1 h2
          rw [hc]; unfold asS at fin; rw [if_pos h7] at fin; exact fin
        · obtain rfl := er u h1 h2
          rw [hc]; unfold asS at fin; rw [if_neg h7, if_pos h8] at fin; exact fin
        · obtain rfl := er u h1 h2
          rw [hc]; unfold asS at fin; rw [if_neg h7, if_neg h8, if_pos h9] at fin; exact fin
        · obtain rfl := er u h1 h2
          rw [hc]; unfold asS at fin; rw [if_neg h7, if_neg h8, if_neg h9] at fin; exact fin
        · obtain rfl := er u h1 h2
          exact absurd (hs.symm.trans h3) hm
      · have hb2 := mt (i_out (b := b) hn).mp hb
        rw [← hz] at hb2
        have out : PEnd 285 [.int (nI r), .int b, .int c] (fun σ2 => rowsR σ2 ∧ same rowsP σ σ2) (some (.int (-12))) w1 (σ.1, σ.2.1, RR σ.2.2) := pend_same ⟨h, same.rf⟩ (f285o hr hn hb h0 hz2 lD3 ⟨rfl, rfl, rfl⟩)
        have no : ∀ {P : Prop} u, u < 4 → nI r = nI u → ¬ b < 0 → ¬ (σ.1 (248 + 3 * u) 1 - 1) < b → P := fun u h1 h2 h3 h4 => by
          obtain rfl := er u h1 h2
          exact absurd ⟨h3, h4⟩ hb2
        refine s161 hR lD1 (fun u h1 h2 h3 h4 => out) (fun u h1 h2 h3 h4 h5 => out) (fun u h1 h2 h3 h4 h5 h6 => out) (fun u h1 h2 h3 h4 h5 h6 h7 => no u h1 h2 h5 h6) (fun u h1 h2 h3 h4 h5 h6 h7 => no u h1 h2 h5 h6) (fun u h1 h2 h3 h4 h5 h6 h7 h8 => no u h1 h2 h5 h6) (fun u h1 h2 h3 h4 h5 h6 h7 h8 => no u h1 h2 h5 h6) (fun u h1 h2 h3 h4 h5 h6 h7 h8 h9 => no u h1 h2 h5 h6) (fun u h1 h2 h3 h4 h5 h6 h7 h8 h9 => no u h1 h2 h5 h6) (fun u h1 h2 h3 h4 h5 h6 h7 h8 h9 => no u h1 h2 h5 h6) (fun u h1 h2 h3 h4 h5 h6 h7 h8 h9 => no u h1 h2 h5 h6) (fun u h1 h2 h3 => ?_) (fun h => absurd ⟨r, hr, rfl⟩ h)
        obtain rfl := er u h1 h2
        exact absurd (hs.symm.trans h3) hm
  · have no : ∀ {P : Prop} u, u < 4 → a = nI u → P := fun u h1 h2 => absurd ⟨u, h1, h2⟩ ha
    exact s161 hR lD1 (fun u h1 h2 h3 h4 => no u h1 h2) (fun u h1 h2 h3 h4 h5 => no u h1 h2) (fun u h1 h2 h3 h4 h5 h6 => no u h1 h2) (fun u h1 h2 h3 h4 h5 h6 h7 => no u h1 h2) (fun u h1 h2 h3 h4 h5 h6 h7 => no u h1 h2) (fun u h1 h2 h3 h4 h5 h6 h7 h8 => no u h1 h2) (fun u h1 h2 h3 h4 h5 h6 h7 h8 => no u h1 h2) (fun u h1 h2 h3 h4 h5 h6 h7 h8 h9 => no u h1 h2) (fun u h1 h2 h3 h4 h5 h6 h7 h8 h9 => no u h1 h2) (fun u h1 h2 h3 h4 h5 h6 h7 h8 h9 => no u h1 h2) (fun u h1 h2 h3 h4 h5 h6 h7 h8 h9 => no u h1 h2) (fun u h1 h2 h3 => no u h1 h2) (fun h9 => pend_same ⟨h, same.rf⟩ (f285b ha lD3 ⟨rfl, rfl, rfl⟩))
