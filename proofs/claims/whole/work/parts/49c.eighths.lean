/-! whole numbers, eighths, and what floats make of them: no -0 -/
theorem ne_m0 {x : UInt64} (h : vs x = false ∨ vm x ≠ 0) : x ≠ 0x8000000000000000 := by
  intro e
  subst e
  have h1 : vs 0x8000000000000000 = true := by decide +kernel
  have h2 : vm 0x8000000000000000 = 0 := by decide +kernel
  rcases h with h | h
  · rw [h1] at h; cases h
  · exact h h2
theorem i2d_vm (c : Int32) : Fi (FP.i2d c) ∧ vs (FP.i2d c) = decide (c.toInt < 0) ∧ vm (FP.i2d c) = c.toInt.natAbs * 2 ^ 1074 := by
  obtain ⟨h1, h2⟩ := whole_fi (Jvm.FP.Core.i2d_int c)
  refine ⟨h1, ?_, ?_⟩
  · obtain ⟨c', q, h3⟩ := Jvm.FP.Core.l2d_shape c.toInt64
    rw [← Jvm.FP.Core.i2d_l2d, Int32.toInt_toInt64] at h3
    show Jvm.FP.Core.sgn _ = _
    rw [h3]; rfl
  · rw [vm_abs, h2, Int.natAbs_mul, Int.natAbs_natCast]
theorem i8_vm (c : Int32) : Fi (FP.ddiv (FP.i2d c) 4620693217682128896) ∧ vs (FP.ddiv (FP.i2d c) 4620693217682128896) = decide (c.toInt < 0) ∧ vm (FP.ddiv (FP.i2d c) 4620693217682128896) = c.toInt.natAbs * 2 ^ 1071 := by
  obtain ⟨k1, k2, k3⟩ := i2d_vm c
  obtain ⟨m, e, h1, h2, h3, -, -⟩ := fi_shape k1
  have hc : c.toInt.natAbs < 2 ^ 32 := by have h1 := Int32.toInt_lt c; have h2 := Int32.le_toInt c; omega
  have h4 : Jvm.FP.Core.val64 4620693217682128896 = .fin false (2 ^ 52) (-49) := by decide +kernel
  have hv : Jvm.FP.Core.val64 (FP.ddiv (FP.i2d c) 4620693217682128896) = Jvm.FP.Core.roundRatio Jvm.FP.Core.b64 (vs (FP.i2d c)) m (2 ^ 52) (-1074 + e - -49) := by
    rw [Jvm.FP.Core.val64_ddiv, h1, h4]
    simp only [Jvm.FP.Core.quotient]
    rw [if_neg (by decide), Bool.bne_false]
  obtain ⟨c', q', h5, h6⟩ := rr_ex (s := vs (FP.i2d c)) (A := m) (B := 2 ^ 52) (n := c.toInt.natAbs * 2 ^ 1071) (k := 0) (e := -1074 + e - -49) (by decide) ⟨_, _, by omega, rfl⟩ (by
    have g : c.toInt.natAbs * 2 ^ 1071 < 2 ^ 32 * 2 ^ 1071 := Nat.mul_lt_mul_of_pos_right hc (Nat.two_pow_pos _)
    rw [← Nat.pow_add] at g
    exact Nat.lt_trans g (Nat.pow_lt_pow_right (by decide) (by decide))) (by omega) (by
    rw [show (-1074 + (e : Int) - -49 - (-1074 - ((0 : Nat) : Int))).toNat = e + 49 by omega, Nat.pow_add, ← Nat.mul_assoc, ← h3, k3, Nat.pow_zero, Nat.mul_one, Nat.mul_assoc, Nat.mul_assoc, ← Nat.pow_add, ← Nat.pow_add])
  rw [h5] at hv
  refine ⟨⟨_, _, _, hv⟩, ?_, ?_⟩
  · rw [← k2]
    show Jvm.FP.Core.sgn _ = _
    rw [hv]; rfl
  · show Jvm.FP.Core.zmag _ _ = _
    rw [hv]; exact h6
theorem sm_i8 (c : Int32) : Sm (FP.ddiv (FP.i2d c) 4620693217682128896) := by
  obtain ⟨k1, k2, k3⟩ := i8_vm c
  have hc : c.toInt.natAbs ≤ 2 ^ 32 := by have h1 := Int32.toInt_lt c; have h2 := Int32.le_toInt c; omega
  refine ⟨k1, ?_⟩
  rw [k3]
  have := Nat.mul_le_mul_right (2 ^ 1071) hc
  rw [← Nat.pow_add] at this
  exact Nat.le_trans this (Nat.pow_le_pow_right (by decide) (by decide))
theorem d2f_sg {x : UInt64} (h : Sm x) : ws (FP.d2f x) = vs x := by
  obtain ⟨c, e, h1, h2, h3, -, -⟩ := fi_shape h.1
  have hc : FP.d2f x = Jvm.FP.Core.d2f x := Jvm.FP.d2f_core (Jvm.Free.Fl.noNaN64_no.mp (fi_nn h.1))
  have hv : Jvm.FP.Core.val32 (FP.d2f x) = Jvm.FP.Core.roundRatio Jvm.FP.Core.b32 (vs x) c 1 (-1074 + e) := by
    rw [hc, Jvm.FP.Core.val32_d2f, h1]; rfl
  show Jvm.FP.Core.sgn _ = _
  rw [hv]
  rcases Jvm.FP.Core.roundRatio_cases Jvm.FP.Core.b32 (vs x) c 1 (-1074 + (e : Int)) with ⟨c', q', g⟩ | g <;> rw [g] <;> rfl
/-- what is an eighth at least stays above 0 -/
theorem d2f_pos {x : UInt64} (h : Sm x) (h8 : 2 ^ 1071 ≤ vm x) : wm (FP.d2f x) ≠ 0 := by
  obtain ⟨c, e, h1, h2, h3, -, -⟩ := fi_shape h.1
  have hc : FP.d2f x = Jvm.FP.Core.d2f x := Jvm.FP.d2f_core (Jvm.Free.Fl.noNaN64_no.mp (fi_nn h.1))
  have hv : Jvm.FP.Core.val32 (FP.d2f x) = Jvm.FP.Core.roundRatio Jvm.FP.Core.b32 (vs x) c 1 (-1074 + e) := by
    rw [hc, Jvm.FP.Core.val32_d2f, h1]; rfl
  have hV : Jvm.FP.Core.zmag Jvm.FP.Core.b32 (Jvm.FP.Core.val32 1040187392) = 2 ^ 146 := by decide +kernel
  have q1 := qmin32
  have ge := Jvm.FP.Core.zmag_roundRatio_ge Jvm.FP.Core.good_b32 (s := vs x) (A := c) (B := 1) (e := -1074 + (e : Int)) (e0 := -1074) (by decide) (Jvm.FP.Core.val32_fits 1040187392) (by omega) (by omega) (by
    rw [hV, show (Jvm.FP.Core.b32.qmin - -1074).toNat = 925 by rw [q1]; rfl, Nat.mul_one, ← Nat.pow_add]
    unfold Jvm.FP.Core.inUnits
    rw [show (-1074 + (e : Int) - -1074).toNat = e by omega, ← h3]
    exact h8)
  rw [hV, ← hv] at ge
  intro h0
  have : (2 : Nat) ^ 146 ≤ 0 := by rw [← h0]; exact ge
  exact absurd this (by decide)
theorem put_ok (c : Int32) : (Sm (FP.i2d c) ∧ FP.i2d c ≠ 0x8000000000000000) ∧ (Sm (FP.ddiv (FP.i2d c) 4620693217682128896) ∧ FP.ddiv (FP.i2d c) 4620693217682128896 ≠ 0x8000000000000000) ∧ (Sm (FP.f2d (FP.d2f (FP.ddiv (FP.i2d c) 4620693217682128896))) ∧ FP.f2d (FP.d2f (FP.ddiv (FP.i2d c) 4620693217682128896)) ≠ 0x8000000000000000) := by
  obtain ⟨a1, a2, a3⟩ := i2d_vm c
  obtain ⟨b1, b2, b3⟩ := i8_vm c
  have s8 := sm_i8 c
  by_cases hc : c.toInt < 0
  · have hp : 0 < c.toInt.natAbs := by omega
    refine ⟨⟨sm_i c, ne_m0 (Or.inr ?_)⟩, ⟨s8, ne_m0 (Or.inr ?_)⟩, sm_f s8, ne_m0 (Or.inr ?_)⟩
    · rw [a3]; exact Nat.ne_of_gt (Nat.mul_pos hp (Nat.two_pow_pos _))
    · rw [b3]; exact Nat.ne_of_gt (Nat.mul_pos hp (Nat.two_pow_pos _))
    · rw [(f2d_ex (d2f_sm s8).1).2.2]
      refine Nat.ne_of_gt (Nat.mul_pos (Nat.pos_of_ne_zero (d2f_pos s8 ?_)) (Nat.two_pow_pos _))
      rw [b3]; exact Nat.le_mul_of_pos_left _ hp
  · rw [decide_eq_false hc] at a2 b2
    refine ⟨⟨sm_i c, ne_m0 (Or.inl a2)⟩, ⟨s8, ne_m0 (Or.inl b2)⟩, sm_f s8, ne_m0 (Or.inl ?_)⟩
    rw [(f2d_ex (d2f_sm s8).1).2.1, d2f_sg s8]; exact b2
