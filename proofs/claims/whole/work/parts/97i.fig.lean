/-! the figure of a whole number -/
theorem fig_vm {v : Nat} (hv : v < 10000) : Fi (fig (1000 * v)) ∧ vs (fig (1000 * v)) = false ∧ vm (fig (1000 * v)) = v * 2 ^ 1074 := by
  have hti : (nI (1000 * v)).toInt = ((1000 * v : Nat) : Int) := nI_toInt (by omega)
  obtain ⟨k1, k2, k3⟩ := i2d_vm (nI (1000 * v))
  rw [hti] at k2 k3
  have k2' : vs (FP.i2d (nI (1000 * v))) = false := by rw [k2]; exact decide_eq_false (by omega)
  rw [Int.natAbs_natCast] at k3
  obtain ⟨m, e, h1, h2, h3, -, -⟩ := fi_shape k1
  have h4 : Jvm.FP.Core.val64 4652007308841189376 = .fin false (1000 * 2 ^ 43) (-43) := by decide +kernel
  have hv2 : Jvm.FP.Core.val64 (fig (1000 * v)) = Jvm.FP.Core.roundRatio Jvm.FP.Core.b64 (vs (FP.i2d (nI (1000 * v)))) m (1000 * 2 ^ 43) (-1074 + e - -43) := by
    unfold fig
    rw [Jvm.FP.Core.val64_ddiv, h1, h4]
    simp only [Jvm.FP.Core.quotient]
    rw [if_neg (by decide), Bool.bne_false]
  obtain ⟨c', q', h5, h6⟩ := rr_ex (s := vs (FP.i2d (nI (1000 * v)))) (A := m) (B := 1000 * 2 ^ 43) (n := v * 2 ^ 1074) (k := 0) (e := -1074 + e - -43) (by decide) ⟨_, _, by omega, rfl⟩ (by
    have g : v * 2 ^ 1074 < 2 ^ 14 * 2 ^ 1074 := Nat.mul_lt_mul_of_pos_right (by omega) (Nat.two_pow_pos _)
    rw [← Nat.pow_add] at g
    exact Nat.lt_trans g (Nat.pow_lt_pow_right (by decide) (by decide))) (by omega) (by
    rw [show (-1074 + (e : Int) - -43 - (-1074 - ((0 : Nat) : Int))).toNat = e + 43 by omega, Nat.pow_add, ← Nat.mul_assoc, ← h3, k3, Nat.pow_zero, Nat.mul_one]
    generalize (2 : Nat) ^ 1074 = X
    generalize (2 : Nat) ^ 43 = Y
    rw [Nat.mul_comm 1000 v, Nat.mul_comm 1000 Y]
    simp only [Nat.mul_assoc, Nat.mul_comm, Nat.mul_left_comm])
  rw [h5] at hv2
  refine ⟨⟨_, _, _, hv2⟩, ?_, ?_⟩
  · rw [← k2']
    show Jvm.FP.Core.sgn _ = _
    rw [hv2]; rfl
  · show Jvm.FP.Core.zmag _ _ = _
    rw [hv2]; exact h6
/-- the reference's figure of a whole number is the class's -/
theorem fig_w {v : Nat} (hv : v < 10000) : FP.i2d (nI v) = fig (1000 * v) := by
  obtain ⟨f1, f2, f3⟩ := fig_vm hv
  have hti : (nI v).toInt = (v : Int) := nI_toInt (by omega)
  obtain ⟨k1, k2, k3⟩ := i2d_vm (nI v)
  rw [hti] at k2 k3
  rw [Int.natAbs_natCast] at k3
  exact vm_inj k1 f1 (by rw [k2, f2]; exact decide_eq_false (by omega)) (by rw [k3, f3])
