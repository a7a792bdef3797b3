/-! doubles as numbers: a sign and a magnitude in units of the least -/
abbrev vm (x : UInt64) : Nat := Jvm.FP.Core.zmag Jvm.FP.Core.b64 (Jvm.FP.Core.val64 x)
abbrev vs (x : UInt64) : Bool := Jvm.FP.Core.sgn (Jvm.FP.Core.val64 x)
abbrev vz (x : UInt64) : Int := Jvm.FP.Core.zval Jvm.FP.Core.b64 (Jvm.FP.Core.val64 x)
abbrev Fi (x : UInt64) : Prop := Jvm.FP.Core.DFin x
theorem qmin64 : Jvm.FP.Core.b64.qmin = -1074 := by decide +kernel
theorem top64 : Jvm.FP.Core.b64.tails * 2 ^ (Jvm.FP.Core.b64.exps - 2) = 2 ^ 2098 := by
  rw [show Jvm.FP.Core.b64.tails = 2 ^ 52 by decide +kernel, show Jvm.FP.Core.b64.exps - 2 = 2046 by decide +kernel, ← Nat.pow_add]
def rep (n : Nat) : Prop := ∃ c e : Nat, c < 2 ^ 53 ∧ n = c * 2 ^ e
theorem rep_norm : ∀ (e c : Nat), c < 2 ^ 53 → ∃ c' e' : Nat, c' < 2 ^ 53 ∧ c * 2 ^ e = c' * 2 ^ e' ∧ (e' = 0 ∨ 2 ^ 52 ≤ c')
  | 0, c, h => ⟨c, 0, h, rfl, Or.inl rfl⟩
  | e + 1, c, h => by
    by_cases h2 : 2 ^ 52 ≤ c
    · exact ⟨c, e + 1, h, rfl, Or.inr h2⟩
    · obtain ⟨c', e', h3, h4, h5⟩ := rep_norm e (2 * c) (by omega)
      exact ⟨c', e', h3, by rw [← h4, Nat.pow_succ, Nat.mul_comm (2 ^ e) 2, ← Nat.mul_assoc, Nat.mul_comm c 2], h5⟩
theorem fi_shape {x : UInt64} (h : Fi x) : ∃ c e : Nat, Jvm.FP.Core.val64 x = .fin (vs x) c (-1074 + e) ∧ c < 2 ^ 53 ∧ vm x = c * 2 ^ e ∧ e ≤ 2045 ∧ (e = 0 ∨ 2 ^ 52 ≤ c) := by
  obtain ⟨s, c, q, hx⟩ := h
  have hf := Jvm.FP.Core.val64_fits x
  rw [hx] at hf
  obtain ⟨h1, h2, h3, h4⟩ := hf
  have q1 := qmin64
  have q2 : Jvm.FP.Core.b64.qmax = 971 := by decide +kernel
  have q3 : Jvm.FP.Core.b64.tails = 2 ^ 52 := by decide +kernel
  have q4 : Jvm.FP.Core.b64.p = 53 := rfl
  refine ⟨c, (q + 1074).toNat, ?_, by rw [q4] at h1; exact h1, ?_, by omega, ?_⟩
  · show _ = Jvm.FP.Core.Datum.fin (Jvm.FP.Core.sgn _) _ _
    rw [hx]
    show Jvm.FP.Core.Datum.fin s c q = Jvm.FP.Core.Datum.fin s c _
    congr 1
    omega
  · show Jvm.FP.Core.zmag _ _ = _
    rw [hx]
    show c * 2 ^ (q - Jvm.FP.Core.b64.qmin).toNat = _
    rw [q1]
    congr 3
  · rcases h4 with h4 | h4
    · exact Or.inl (by omega)
    · exact Or.inr (by rw [q3] at h4; exact h4)
theorem fi_rep {x : UInt64} (h : Fi x) : rep (vm x) := by
  obtain ⟨c, e, -, h1, h2, -⟩ := fi_shape h
  exact ⟨c, e, h1, h2⟩
theorem fi_top {x : UInt64} (h : Fi x) : vm x < 2 ^ 2098 := by
  have := Jvm.FP.Core.DFin.zval_lt h
  rw [top64] at this
  exact this
theorem pow_uni {c d a b : Nat} (hc : c < 2 ^ 53) (hd : d < 2 ^ 53) (ha : a = 0 ∨ 2 ^ 52 ≤ c) (hb : b = 0 ∨ 2 ^ 52 ≤ d) (h : c * 2 ^ a = d * 2 ^ b) : a = b ∧ c = d := by
  have key : ∀ {c d a b : Nat}, c < 2 ^ 53 → (b = 0 ∨ 2 ^ 52 ≤ d) → c * 2 ^ a = d * 2 ^ b → ¬ a < b := by
    intro c d a b hc hb h hab
    have hd2 : 2 ^ 52 ≤ d := by rcases hb with hb | hb; omega; exact hb
    have e : b = a + 1 + (b - a - 1) := by omega
    rw [e, Nat.pow_add, Nat.pow_add] at h
    have p1 := Nat.two_pow_pos (b - a - 1)
    have p2 := Nat.two_pow_pos a
    have h3 : 2 ^ 52 * 2 * 2 ^ a ≤ d * (2 ^ a * 2 ^ 1 * 2 ^ (b - a - 1)) := by
      have : 2 ^ 52 * 2 * 2 ^ a ≤ d * 2 * 2 ^ a := Nat.mul_le_mul_right _ (Nat.mul_le_mul_right _ hd2)
      have h4 : d * 2 * 2 ^ a ≤ d * 2 * 2 ^ a * 2 ^ (b - a - 1) := Nat.le_mul_of_pos_right _ p1
      have h5 : d * 2 * 2 ^ a * 2 ^ (b - a - 1) = d * (2 ^ a * 2 ^ 1 * 2 ^ (b - a - 1)) := by
        rw [Nat.pow_one, Nat.mul_comm (2 ^ a) 2, ← Nat.mul_assoc d, ← Nat.mul_assoc d]
      omega
    have h6 : c * 2 ^ a < 2 ^ 53 * 2 ^ a := Nat.mul_lt_mul_of_pos_right hc p2
    have h7 : (2 : Nat) ^ 52 * 2 = 2 ^ 53 := by decide
    rw [h7] at h3
    omega
  have e : a = b := Nat.le_antisymm (Nat.not_lt.mp (key hd ha h.symm)) (Nat.not_lt.mp (key hc hb h))
  subst e
  exact ⟨rfl, Nat.eq_of_mul_eq_mul_right (Nat.two_pow_pos a) h⟩
theorem vm_inj {x y : UInt64} (hx : Fi x) (hy : Fi y) (hs : vs x = vs y) (hm : vm x = vm y) : x = y := by
  have nx := Jvm.FP.Core.DFin.ne_nan hx
  obtain ⟨c, e, h1, h2, h3, -, h5⟩ := fi_shape hx
  obtain ⟨c', e', k1, k2, k3, -, k5⟩ := fi_shape hy
  obtain ⟨rfl, rfl⟩ := pow_uni h2 k2 h5 k5 (by rw [← h3, ← k3]; exact hm)
  exact Jvm.FP.Core.val64_inj nx (by rw [h1, k1, hs])
theorem ex_rep (s : Bool) {n : Nat} (hn : rep n) (ht : n < 2 ^ 2098) : ∃ V : UInt64, Fi V ∧ vs V = s ∧ vm V = n := by
  obtain ⟨c0, e0, h0, rfl⟩ := hn
  obtain ⟨c, e, h1, h2, h3⟩ := rep_norm e0 c0 h0
  have q1 := qmin64
  have q2 : Jvm.FP.Core.b64.qmax = 971 := by decide +kernel
  have q3 : Jvm.FP.Core.b64.tails = 2 ^ 52 := by decide +kernel
  have he : e ≤ 2045 := by
    rcases h3 with h3 | h3
    · omega
    · rcases Nat.lt_or_ge 2045 e with h4 | h4
      · exfalso
        have h5 : 2 ^ 52 * 2 ^ e ≤ c * 2 ^ e := Nat.mul_le_mul_right _ h3
        rw [← h2, ← Nat.pow_add] at h5
        have h6 : (2 : Nat) ^ 2098 ≤ 2 ^ (52 + e) := Nat.pow_le_pow_right (by decide) (by omega)
        exact absurd (Nat.lt_of_le_of_lt (Nat.le_trans h6 h5) ht) (Nat.lt_irrefl _)
      · exact h4
  have hf : Jvm.FP.Core.fits Jvm.FP.Core.b64 (.fin s c (-1074 + e)) := by
    refine ⟨h1, by omega, by omega, ?_⟩
    rcases h3 with h3 | h3
    · exact Or.inl (by omega)
    · exact Or.inr (by rw [q3]; exact h3)
  have hv := Jvm.FP.Core.val64_of64 hf
  refine ⟨Jvm.FP.Core.of64 (.fin s c (-1074 + e)), ⟨_, _, _, hv⟩, ?_, ?_⟩
  · show Jvm.FP.Core.sgn _ = _
    rw [hv]; rfl
  · show Jvm.FP.Core.zmag _ _ = _
    rw [hv, h2]
    show c * 2 ^ ((-1074 + e) - Jvm.FP.Core.b64.qmin).toNat = _
    rw [q1]
    congr 2
    omega
theorem rr_ex {s : Bool} {A B n k : Nat} {e : Int} (hB : 0 < B) (hn : rep n) (ht : n < 2 ^ 2098) (he : -1074 - (k : Int) ≤ e)
    (h : A * 2 ^ (e - (-1074 - (k : Int))).toNat = n * 2 ^ k * B) : ∃ (c : Nat) (q : Int), Jvm.FP.Core.roundRatio Jvm.FP.Core.b64 s A B e = .fin s c q ∧ Jvm.FP.Core.inUnits c q Jvm.FP.Core.b64.qmin = n := by
  obtain ⟨V, hV, -, hm⟩ := ex_rep s hn ht
  have q1 := qmin64
  have e1 : (Jvm.FP.Core.b64.qmin - (Jvm.FP.Core.b64.qmin - (k : Int))).toNat = k := by omega
  have hh : Jvm.FP.Core.inUnits A e (Jvm.FP.Core.b64.qmin - (k : Int)) = vm V * 2 ^ (Jvm.FP.Core.b64.qmin - (Jvm.FP.Core.b64.qmin - (k : Int))).toNat * B := by
    rw [e1, hm, ← h, q1]; rfl
  have le := Jvm.FP.Core.zmag_roundRatio_le Jvm.FP.Core.good_b64 (s := s) hB (Jvm.FP.Core.val64_fits V) (Jvm.FP.Core.DFin.ne_nan hV) (e0 := Jvm.FP.Core.b64.qmin - (k : Int)) (e := e) (by omega) (by omega) (Nat.le_of_eq hh)
  have ge := Jvm.FP.Core.zmag_roundRatio_ge Jvm.FP.Core.good_b64 (s := s) hB (Jvm.FP.Core.val64_fits V) (e0 := Jvm.FP.Core.b64.qmin - (k : Int)) (e := e) (by omega) (by omega) (Nat.le_of_eq hh.symm)
  have heq : Jvm.FP.Core.zmag Jvm.FP.Core.b64 (Jvm.FP.Core.roundRatio Jvm.FP.Core.b64 s A B e) = n := by
    rw [← hm]; exact Nat.le_antisymm le ge
  rcases Jvm.FP.Core.roundRatio_cases Jvm.FP.Core.b64 s A B e with ⟨c, q, h1⟩ | h1
  · exact ⟨c, q, h1, by rw [h1] at heq; exact heq⟩
  · rw [h1] at heq
    have : Jvm.FP.Core.zmag Jvm.FP.Core.b64 (.inf s) = 2 ^ 2098 := top64
    rw [this] at heq
    exact absurd ht (by rw [heq]; exact Nat.lt_irrefl _)
/-- by 2, exactly -/
theorem dmul_2 {x : UInt64} (h : Fi x) (ht : 2 * vm x < 2 ^ 2098) : Fi (FP.dmul x 4611686018427387904) ∧ vs (FP.dmul x 4611686018427387904) = vs x ∧ vm (FP.dmul x 4611686018427387904) = 2 * vm x := by
  obtain ⟨c, e, h1, h2, h3, -, -⟩ := fi_shape h
  have h4 : Jvm.FP.Core.val64 4611686018427387904 = .fin false (2 ^ 52) (-51) := by decide +kernel
  have hv : Jvm.FP.Core.val64 (FP.dmul x 4611686018427387904) = Jvm.FP.Core.roundRatio Jvm.FP.Core.b64 (vs x) (c * 2 ^ 52) 1 (-1074 + e + -51) := by
    rw [Jvm.FP.Core.val64_dmul, h1, h4]
    show Jvm.FP.Core.round _ (.fin ((vs x) != false) _ _) = _
    rw [Bool.bne_false]; rfl
  obtain ⟨c', q', h5, h6⟩ := rr_ex (s := vs x) (A := c * 2 ^ 52) (B := 1) (n := 2 * vm x) (k := 51) (e := -1074 + e + -51) (by decide) (by
    refine ⟨c, e + 1, h2, ?_⟩
    rw [h3, Nat.pow_succ, Nat.mul_comm (2 ^ e) 2, Nat.mul_left_comm]) ht (by omega) (by
    rw [show (-1074 + (e : Int) + -51 - (-1074 - ((51 : Nat) : Int))).toNat = e by omega, h3, Nat.mul_one]
    rw [show (2 : Nat) ^ 52 = 2 * 2 ^ 51 by decide]
    generalize (2 : Nat) ^ 51 = u
    ac_rfl)
  rw [h5] at hv
  refine ⟨⟨_, _, _, hv⟩, ?_, ?_⟩
  · show Jvm.FP.Core.sgn _ = _
    rw [hv]; rfl
  · show Jvm.FP.Core.zmag _ _ = _
    rw [hv]; exact h6
/-- half, exactly -/
theorem ddiv_2 {x : UInt64} {m : Nat} (h : Fi x) (hm : vm x = 2 * m) (hr : rep m) : Fi (FP.ddiv x 4611686018427387904) ∧ vs (FP.ddiv x 4611686018427387904) = vs x ∧ vm (FP.ddiv x 4611686018427387904) = m := by
  have ht := fi_top h
  obtain ⟨c, e, h1, h2, h3, -, -⟩ := fi_shape h
  have h4 : Jvm.FP.Core.val64 4611686018427387904 = .fin false (2 ^ 52) (-51) := by decide +kernel
  have hv : Jvm.FP.Core.val64 (FP.ddiv x 4611686018427387904) = Jvm.FP.Core.roundRatio Jvm.FP.Core.b64 (vs x) c (2 ^ 52) (-1074 + e - -51) := by
    rw [Jvm.FP.Core.val64_ddiv, h1, h4]
    simp only [Jvm.FP.Core.quotient]
    rw [if_neg (by decide), Bool.bne_false]
  obtain ⟨c', q', h5, h6⟩ := rr_ex (s := vs x) (A := c) (B := 2 ^ 52) (n := m) (k := 0) (e := -1074 + e - -51) (by decide) hr (by omega) (by omega) (by
    rw [show (-1074 + (e : Int) - -51 - (-1074 - ((0 : Nat) : Int))).toNat = e + 51 by omega, Nat.pow_add, ← Nat.mul_assoc, ← h3, hm]
    rw [show (2 : Nat) ^ 52 = 2 * 2 ^ 51 by decide]
    generalize (2 : Nat) ^ 51 = u
    rw [Nat.pow_zero, Nat.mul_one]
    ac_rfl)
  rw [h5] at hv
  refine ⟨⟨_, _, _, hv⟩, ?_, ?_⟩
  · show Jvm.FP.Core.sgn _ = _
    rw [hv]; rfl
  · show Jvm.FP.Core.zmag _ _ = _
    rw [hv]; exact h6
theorem vz_pos {x : UInt64} (hs : vs x = false) : vz x = (vm x : Int) := by
  show Jvm.FP.Core.signed (vs x) (vm x) = _
  rw [hs]; rfl
theorem vz_neg {x : UInt64} (hs : vs x = true) : vz x = -(vm x : Int) := by
  show Jvm.FP.Core.signed (vs x) (vm x) = _
  rw [hs]; rfl
theorem dneg_fi {x : UInt64} (h : Fi x) : Fi (FP.dneg x) ∧ vs (FP.dneg x) = !(vs x) ∧ vm (FP.dneg x) = vm x := by
  obtain ⟨c, e, h1, -⟩ := fi_shape h
  have hv : Jvm.FP.Core.val64 (FP.dneg x) = .fin (!(vs x)) c (-1074 + e) := by rw [Jvm.FP.val64_dneg, h1]; rfl
  refine ⟨⟨_, _, _, hv⟩, ?_, ?_⟩
  · show Jvm.FP.Core.sgn _ = _
    rw [hv]; rfl
  · show Jvm.FP.Core.zmag _ _ = Jvm.FP.Core.zmag _ _
    rw [hv, h1]; rfl
/-- a difference of numbers that are no less than 0, exactly -/
theorem dsub_ex {x y : UInt64} (hx : Fi x) (hy : Fi y) (sx : vs x = false) (sy : vs y = false) (hle : vm y ≤ vm x) (hr : rep (vm x - vm y)) : Fi (FP.dsub x y) ∧ vs (FP.dsub x y) = false ∧ vm (FP.dsub x y) = vm x - vm y := by
  have ht := fi_top hx
  have fx := Jvm.FP.Core.val64_fits x
  have fy := Jvm.FP.Core.negate_fits (Jvm.FP.Core.val64_fits y)
  obtain ⟨c, e, h1, h2, h3, -, -⟩ := fi_shape hx
  obtain ⟨d, r, k1, k2, k3, -, -⟩ := fi_shape hy
  rw [sx] at h1
  rw [sy] at k1
  rw [h1] at fx
  rw [k1] at fy
  obtain ⟨sg, n, E, g1, g2, g3⟩ := Jvm.FP.Core.sum_units fx (show Jvm.FP.Core.fits _ (.fin true d (-1074 + r)) from fy)
  have z1 : Jvm.FP.Core.zval Jvm.FP.Core.b64 (.fin false c (-1074 + e)) = (vm x : Int) := by
    rw [← h1, ← vz_pos sx]
  have z2 : Jvm.FP.Core.zval Jvm.FP.Core.b64 (.fin true d (-1074 + r)) = -(vm y : Int) := by
    rw [show Jvm.FP.Core.Datum.fin true d (-1074 + r) = Jvm.FP.Core.negate (.fin false d (-1074 + r)) from rfl, Jvm.FP.Core.zval_negate, ← k1, ← vz_pos sy]
  rw [z1, z2] at g3
  have hsg : sg = false ∧ Jvm.FP.Core.inUnits n E Jvm.FP.Core.b64.qmin = vm x - vm y := by
    cases sg with
    | false =>
      refine ⟨rfl, ?_⟩
      have : ((Jvm.FP.Core.inUnits n E Jvm.FP.Core.b64.qmin : Nat) : Int) = (vm x : Int) + -(vm y : Int) := g3
      omega
    | true =>
      exfalso
      have g4 : -((Jvm.FP.Core.inUnits n E Jvm.FP.Core.b64.qmin : Nat) : Int) = (vm x : Int) + -(vm y : Int) := g3
      have g5 : Jvm.FP.Core.inUnits n E Jvm.FP.Core.b64.qmin = 0 := by omega
      have g6 : n = 0 := by
        unfold Jvm.FP.Core.inUnits at g5
        rcases Nat.mul_eq_zero.mp g5 with h | h
        · exact h
        · exact absurd h (Nat.ne_of_gt (Nat.two_pow_pos _))
      have g7 : Jvm.FP.Core.exactSum (.fin false c (-1074 + e)) (.fin true d (-1074 + r)) = .fin (Jvm.FP.Core.sumSign false true (Jvm.FP.Core.sumUnits false c (-1074 + e) true d (-1074 + r) (min (-1074 + e) (-1074 + r)))) (Jvm.FP.Core.sumUnits false c (-1074 + e) true d (-1074 + r) (min (-1074 + e) (-1074 + r))).natAbs (min (-1074 + e) (-1074 + r)) := rfl
      rw [g7] at g1
      generalize Jvm.FP.Core.sumUnits false c (-1074 + e) true d (-1074 + r) (min (-1074 + e) (-1074 + r)) = v at g1
      injection g1 with a1 a2 a3
      rw [g6] at a2
      have : v = 0 := Int.natAbs_eq_zero.mp a2
      rw [this] at a1
      exact absurd a1 (by decide)
  obtain ⟨rfl, g5⟩ := hsg
  have q1 := qmin64
  have hv : Jvm.FP.Core.val64 (FP.dsub x y) = Jvm.FP.Core.roundRatio Jvm.FP.Core.b64 false n 1 E := by
    rw [Jvm.FP.Core.val64_dsub, h1, k1]
    show Jvm.FP.Core.round _ (Jvm.FP.Core.exactSum (.fin false c (-1074 + e)) (.fin true d (-1074 + r))) = _
    rw [g1]; rfl
  obtain ⟨c', q', h5, h6⟩ := rr_ex (s := false) (A := n) (B := 1) (n := vm x - vm y) (k := 0) (e := E) (by decide) hr (by omega) (by omega) (by
    rw [← g5, Nat.mul_one, Nat.pow_zero, Nat.mul_one, q1]
    unfold Jvm.FP.Core.inUnits
    congr 3)
  rw [h5] at hv
  refine ⟨⟨_, _, _, hv⟩, ?_, ?_⟩
  · show Jvm.FP.Core.sgn _ = _
    rw [hv]; rfl
  · show Jvm.FP.Core.zmag _ _ = _
    rw [hv]; exact h6
theorem rep_sub {x y : UInt64} (hx : Fi x) (hy : Fi y) (h1 : vm y ≤ vm x) (h2 : vm x ≤ 2 * vm y) : rep (vm x - vm y) := by
  obtain ⟨c, e, -, a2, a3, -, a5⟩ := fi_shape hx
  obtain ⟨d, r, -, b2, b3, -, b5⟩ := fi_shape hy
  have her : r ≤ e := by
    rcases Nat.lt_or_ge e r with h | h
    · exfalso
      have hd2 : 2 ^ 52 ≤ d := by rcases b5 with b5 | b5; omega; exact b5
      have e1 : r = e + 1 + (r - e - 1) := by omega
      have p1 := Nat.two_pow_pos (r - e - 1)
      have p2 := Nat.two_pow_pos e
      have g1 : 2 ^ 53 * 2 ^ e ≤ d * 2 ^ r := by
        rw [e1, Nat.pow_add, Nat.pow_add, Nat.pow_one]
        have : 2 ^ 53 * 2 ^ e ≤ d * 2 * 2 ^ e := Nat.mul_le_mul_right _ (by omega)
        have g2 : d * 2 * 2 ^ e ≤ d * 2 * 2 ^ e * 2 ^ (r - e - 1) := Nat.le_mul_of_pos_right _ p1
        have g3 : d * 2 * 2 ^ e * 2 ^ (r - e - 1) = d * (2 ^ e * 2 * 2 ^ (r - e - 1)) := by
          rw [Nat.mul_comm (2 ^ e) 2, ← Nat.mul_assoc d, ← Nat.mul_assoc d]
        omega
      have g4 : c * 2 ^ e < 2 ^ 53 * 2 ^ e := Nat.mul_lt_mul_of_pos_right a2 p2
      omega
    · exact h
  refine ⟨c * 2 ^ (e - r) - d, r, ?_, ?_⟩
  · have p := Nat.two_pow_pos r
    have g1 : c * 2 ^ (e - r) * 2 ^ r = vm x := by rw [Nat.mul_assoc, ← Nat.pow_add, show e - r + r = e by omega, a3]
    rcases Nat.lt_or_ge (c * 2 ^ (e - r) - d) (2 ^ 53) with h | h
    · exact h
    · exfalso
      have g2 : (2 * d) * 2 ^ r < (c * 2 ^ (e - r)) * 2 ^ r := Nat.mul_lt_mul_of_pos_right (by omega) p
      rw [g1, Nat.mul_assoc, ← b3] at g2
      omega
  · rw [Nat.sub_mul, Nat.mul_assoc, ← Nat.pow_add, show e - r + r = e by omega, ← a3, ← b3]
theorem dlt_iff {x y : UInt64} (hx : Fi x) (hy : Fi y) : dlt x y = true ↔ vz x < vz y := by
  unfold dlt
  rw [beq_iff_eq, Jvm.FP.Core.dcmp_lt]
  exact ⟨fun h => h.2.2, fun h => ⟨Jvm.FP.Core.DFin.ne_nan hx, Jvm.FP.Core.DFin.ne_nan hy, h⟩⟩
theorem dgt_iff {x y : UInt64} (hx : Fi x) (hy : Fi y) : dgt x y = true ↔ vz y < vz x := by
  unfold dgt
  rw [beq_iff_eq, Jvm.FP.Core.dcmp_gt]
  exact ⟨fun h => h.2.2, fun h => ⟨Jvm.FP.Core.DFin.ne_nan hx, Jvm.FP.Core.DFin.ne_nan hy, h⟩⟩
theorem dge_iff {x y : UInt64} (hx : Fi x) (hy : Fi y) : dge x y = true ↔ vz y ≤ vz x := by
  unfold dge
  rw [Bool.or_eq_true, beq_iff_eq, beq_iff_eq, Jvm.FP.Core.dcmp_ge]
  exact ⟨fun h => h.2.2, fun h => ⟨Jvm.FP.Core.DFin.ne_nan hx, Jvm.FP.Core.DFin.ne_nan hy, h⟩⟩
theorem dle_iff {x y : UInt64} (hx : Fi x) (hy : Fi y) : dle x y = true ↔ vz x ≤ vz y := by
  unfold dle
  rw [Bool.or_eq_true, beq_iff_eq, beq_iff_eq, Jvm.FP.Core.dcmp_le]
  exact ⟨fun h => h.2.2, fun h => ⟨Jvm.FP.Core.DFin.ne_nan hx, Jvm.FP.Core.DFin.ne_nan hy, h⟩⟩
theorem deq_iff {x y : UInt64} (hx : Fi x) (hy : Fi y) : deq x y = true ↔ vz x = vz y := by
  unfold deq
  rw [beq_iff_eq, Jvm.FP.Core.dcmp_eq]
  exact ⟨fun h => h.2.2, fun h => ⟨Jvm.FP.Core.DFin.ne_nan hx, Jvm.FP.Core.DFin.ne_nan hy, h⟩⟩
theorem fi_lib {x : UInt64} : Jvm.Free.Fl.Fin64 x ↔ Fi x := Jvm.Free.Fl.fin64_core
theorem fi_nn {x : UInt64} (h : Fi x) : vf_n64 x := (fi_lib.mpr h).noNaN
theorem fi_0 : Fi FP.dconst0 := ⟨_, _, _, Jvm.FP.Core.val64_dconst0⟩
theorem vz_0 : vz FP.dconst0 = 0 := Jvm.FP.Core.zval64_zero
theorem fi_2 : Jvm.Free.Fl.Fin64 4611686018427387904 := by unfold Jvm.Free.Fl.Fin64; decide
theorem nz_2 : Jvm.Free.Fl.Nz64 4611686018427387904 := by unfold Jvm.Free.Fl.Nz64; decide
