/-! the numbers that cells are set to: no more than 2^20; sums of such -/
def okB (x : UInt64) : Prop := okD x ∧ vm x ≤ 2 ^ 1094
theorem d2f_mi {x : UInt64} (h : Sm x) (hm : vm x ≤ 2 ^ 1094) : wm (FP.d2f x) ≤ 2 ^ 169 := by
  obtain ⟨c, e, h1, h2, h3, -, -⟩ := fi_shape h.1
  have hc : FP.d2f x = Jvm.FP.Core.d2f x := Jvm.FP.d2f_core (Jvm.Free.Fl.noNaN64_no.mp (fi_nn h.1))
  have hv : Jvm.FP.Core.val32 (FP.d2f x) = Jvm.FP.Core.roundRatio Jvm.FP.Core.b32 (vs x) c 1 (-1074 + e) := by
    rw [hc, Jvm.FP.Core.val32_d2f, h1]; rfl
  have hV : Jvm.FP.Core.zmag Jvm.FP.Core.b32 (Jvm.FP.Core.val32 1233125376) = 2 ^ 169 := by decide +kernel
  have q1 := qmin32
  have le := Jvm.FP.Core.zmag_roundRatio_le Jvm.FP.Core.good_b32 (s := vs x) (A := c) (B := 1) (e := -1074 + (e : Int)) (e0 := -1074) (by decide) (Jvm.FP.Core.val32_fits 1233125376) (by decide +kernel) (by omega) (by omega) (by
    rw [hV, show (Jvm.FP.Core.b32.qmin - -1074).toNat = 925 by rw [q1]; rfl, Nat.mul_one, ← Nat.pow_add]
    unfold Jvm.FP.Core.inUnits
    rw [show (-1074 + (e : Int) - -1074).toNat = e by omega, ← h3]
    exact hm)
  rw [hV, ← hv] at le
  exact le
theorem f_mi {x : UInt64} (h : Sm x) (hm : vm x ≤ 2 ^ 1094) : vm (FP.f2d (FP.d2f x)) ≤ 2 ^ 1094 := by
  rw [(f2d_ex (d2f_sm h).1).2.2]
  have := Nat.mul_le_mul_right (2 ^ 925) (d2f_mi h hm)
  rw [← Nat.pow_add] at this
  exact this
theorem whole_mi {a : UInt64} {i : Int} (h : Jvm.FP.Core.DInt i a) (hi : i.natAbs ≤ 2 ^ 20) : vm a ≤ 2 ^ 1094 := by
  obtain ⟨h1, h2⟩ := whole_fi h
  rw [vm_abs, h2, Int.natAbs_mul, Int.natAbs_natCast]
  have := Nat.mul_le_mul_right (2 ^ 1074) hi
  rw [← Nat.pow_add] at this
  exact this
theorem l_mi {x : UInt64} (h : Sm x) (hm : vm x ≤ 2 ^ 1094) : vm (FP.l2d (FP.d2l x)) ≤ 2 ^ 1094 := by
  have h1 := Jvm.FP.Core.d2l_val (Jvm.FP.Core.DFin.ne_nan h.1)
  have h2 : vm x / Jvm.FP.Core.one64 ≤ 2 ^ 20 := by
    have e : (2 : Nat) ^ 1094 = 2 ^ 20 * Jvm.FP.Core.one64 := by unfold Jvm.FP.Core.one64; rw [← Nat.pow_add]
    rw [e] at hm
    exact Nat.div_le_of_le_mul (by rw [Nat.mul_comm]; exact hm)
  have h3 : (FP.d2l x).toInt.natAbs ≤ 2 ^ 20 := by
    rw [h1]
    generalize vm x / Jvm.FP.Core.one64 = m at h2 ⊢
    unfold Jvm.FP.Core.signed
    split <;> omega
  refine whole_mi (i := (FP.d2l x).toInt) ?_ h3
  exact Jvm.FP.Core.l2d_whole ⟨by omega, by omega⟩
theorem pl_mi {x : UInt64} {M : Nat} (h : vm x ≤ M) : vm (pl x) ≤ M := by
  unfold pl
  split
  · rw [show vm FP.dconst0 = 0 by decide +kernel]; exact Nat.zero_le _
  · exact h
theorem i8_abs (b : Int8) : b.toInt32.toInt.natAbs ≤ 2 ^ 20 := by
  have h1 := Int8.toInt_lt b
  have h2 := Int8.le_toInt b
  rw [Int8.toInt_toInt32]
  omega
theorem kp_mi {k : Int32} {x : UInt64} (h : Sm x) (hm : vm x ≤ 2 ^ 1094) : vm (kp k x) ≤ 2 ^ 1094 := by
  unfold kp
  split
  · exact pl_mi (l_mi h hm)
  split
  · exact pl_mi (f_mi h hm)
  split
  · exact pl_mi (whole_mi (Jvm.FP.Core.i2d_int _) (i8_abs _))
  split
  · have := frem_drem (d2f_sm h).1 fi_f360 wm_360
    rw [this.2, d360]
    refine pl_mi ?_
    rw [(drem_fi (sm_f h).1 fi_360 vm_360).2.2]
    exact Nat.le_trans (Nat.mod_le _ _) (f_mi h hm)
  split
  · split
    · exact pl_mi (by decide +kernel)
    · split
      · exact pl_mi (by decide +kernel)
      · exact pl_mi hm
  · exact pl_mi hm
theorem i8_mi {c : Int32} (h : ¬ c < -(8000000 : Int32) ∧ ¬ (8000000 : Int32) < c) : vm (FP.ddiv (FP.i2d c) 4620693217682128896) ≤ 2 ^ 1094 := by
  obtain ⟨h1, h2⟩ := h
  rw [Int32.lt_iff_toInt_lt] at h1 h2
  have e1 : (-(8000000 : Int32)).toInt = -8000000 := by decide
  have e2 : (8000000 : Int32).toInt = 8000000 := by decide
  rw [e1] at h1
  rw [e2] at h2
  rw [(i8_vm c).2.2]
  have h3 : c.toInt.natAbs ≤ 2 ^ 23 := by omega
  have := Nat.mul_le_mul_right (2 ^ 1071) h3
  rw [← Nat.pow_add] at this
  exact this
theorem set_ok {c k : Int32} (h : ¬ c < -(8000000 : Int32) ∧ ¬ (8000000 : Int32) < c) : okB (kp k (FP.ddiv (FP.i2d c) 4620693217682128896)) := ⟨kp_sm (sm_i8 c), kp_mi (sm_i8 c) (i8_mi h)⟩
