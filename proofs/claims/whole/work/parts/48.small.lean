/-! the numbers of a sheet: no more than 2^41; floats -/
abbrev wm (u : UInt32) : Nat := Jvm.FP.Core.zmag Jvm.FP.Core.b32 (Jvm.FP.Core.val32 u)
abbrev ws (u : UInt32) : Bool := Jvm.FP.Core.sgn (Jvm.FP.Core.val32 u)
def Sm (x : UInt64) : Prop := Fi x ∧ vm x ≤ 2 ^ 1115
theorem qmin32 : Jvm.FP.Core.b32.qmin = -149 := by decide +kernel
theorem d2f_sm {x : UInt64} (h : Sm x) : Jvm.FP.Core.FFin (FP.d2f x) ∧ wm (FP.d2f x) ≤ 2 ^ 190 := by
  obtain ⟨c, e, h1, h2, h3, -, -⟩ := fi_shape h.1
  have hc : FP.d2f x = Jvm.FP.Core.d2f x := Jvm.FP.d2f_core (Jvm.Free.Fl.noNaN64_no.mp (fi_nn h.1))
  have hv : Jvm.FP.Core.val32 (FP.d2f x) = Jvm.FP.Core.roundRatio Jvm.FP.Core.b32 (vs x) c 1 (-1074 + e) := by
    rw [hc, Jvm.FP.Core.val32_d2f, h1]; rfl
  have hV : Jvm.FP.Core.zmag Jvm.FP.Core.b32 (Jvm.FP.Core.val32 1409286144) = 2 ^ 190 := by decide +kernel
  have q1 := qmin32
  have le := Jvm.FP.Core.zmag_roundRatio_le Jvm.FP.Core.good_b32 (s := vs x) (A := c) (B := 1) (e := -1074 + (e : Int)) (e0 := -1074) (by decide) (Jvm.FP.Core.val32_fits 1409286144) (by decide +kernel) (by omega) (by omega) (by
    rw [hV, show (Jvm.FP.Core.b32.qmin - -1074).toNat = 925 by rw [q1]; rfl, Nat.mul_one, ← Nat.pow_add]
    unfold Jvm.FP.Core.inUnits
    rw [show (-1074 + (e : Int) - -1074).toNat = e by omega, ← h3]
    exact h.2)
  rw [hV] at le
  rcases Jvm.FP.Core.roundRatio_cases Jvm.FP.Core.b32 (vs x) c 1 (-1074 + (e : Int)) with ⟨c', q', g⟩ | g
  · rw [g] at hv le
    refine ⟨⟨_, _, _, hv⟩, ?_⟩
    show Jvm.FP.Core.zmag _ _ ≤ _
    rw [hv]; exact le
  · rw [g] at le
    have : Jvm.FP.Core.zmag Jvm.FP.Core.b32 (.inf (vs x)) = 2 ^ 277 := by
      show Jvm.FP.Core.b32.tails * 2 ^ (Jvm.FP.Core.b32.exps - 2) = 2 ^ 277
      decide +kernel
    rw [this] at le
    exact absurd le (by decide +kernel)
theorem f2d_ex {u : UInt32} (h : Jvm.FP.Core.FFin u) : Fi (FP.f2d u) ∧ vs (FP.f2d u) = ws u ∧ vm (FP.f2d u) = wm u * 2 ^ 925 := by
  have hn : Jvm.Free.Fl.NoNaN32 u := (Jvm.Free.Fl.fin32_core.mpr h).noNaN
  have hc : FP.f2d u = Jvm.FP.Core.f2d u := Jvm.FP.f2d_core (Jvm.Free.Fl.noNaN32_no.mp hn)
  have hf := Jvm.FP.Core.val32_fits u
  obtain ⟨s, c, q, hu⟩ := h
  rw [hu] at hf
  obtain ⟨h1, h2, h3, h4⟩ := hf
  have q1 := qmin32
  have q2 : Jvm.FP.Core.b32.qmax = 104 := by decide +kernel
  have q3 : Jvm.FP.Core.b32.p = 24 := rfl
  rw [q3] at h1
  have hv : Jvm.FP.Core.val64 (FP.f2d u) = Jvm.FP.Core.roundRatio Jvm.FP.Core.b64 s c 1 q := by
    rw [hc, Jvm.FP.Core.val64_f2d, hu]; rfl
  have hw : wm u = c * 2 ^ (q + 149).toNat := by
    show Jvm.FP.Core.zmag _ _ = _
    rw [hu]
    show c * 2 ^ (q - Jvm.FP.Core.b32.qmin).toNat = _
    rw [q1]
    congr 2
  have hp : c * 2 ^ (q + 149).toNat * 2 ^ 925 = c * 2 ^ (q + 1074).toNat := by
    rw [Nat.mul_assoc, ← Nat.pow_add]
    congr 2
    omega
  obtain ⟨c', q', h5, h6⟩ := rr_ex (s := s) (A := c) (B := 1) (n := wm u * 2 ^ 925) (k := 0) (e := q) (by decide) ⟨c, (q + 1074).toNat, by omega, by rw [hw, hp]⟩ (by
    rw [hw, hp]
    have a1 : c * 2 ^ (q + 1074).toNat < 2 ^ 24 * 2 ^ (q + 1074).toNat := Nat.mul_lt_mul_of_pos_right h1 (Nat.two_pow_pos _)
    have a2 : 2 ^ 24 * 2 ^ (q + 1074).toNat ≤ 2 ^ 24 * 2 ^ 2074 := Nat.mul_le_mul_left _ (Nat.pow_le_pow_right (by decide) (by omega))
    have a3 : (2 : Nat) ^ 24 * 2 ^ 2074 = 2 ^ 2098 := by rw [← Nat.pow_add]
    rw [a3] at a2
    exact Nat.lt_of_lt_of_le a1 a2) (by omega) (by
    rw [hw, hp, Nat.mul_one, Nat.pow_zero, Nat.mul_one]
    congr 2)
  rw [h5] at hv
  refine ⟨⟨_, _, _, hv⟩, ?_, ?_⟩
  · show Jvm.FP.Core.sgn _ = Jvm.FP.Core.sgn _
    rw [hv, hu]; rfl
  · show Jvm.FP.Core.zmag _ _ = _
    rw [hv]; exact h6
theorem sm_f {x : UInt64} (h : Sm x) : Sm (FP.f2d (FP.d2f x)) := by
  obtain ⟨h1, h2⟩ := d2f_sm h
  obtain ⟨k1, -, k3⟩ := f2d_ex h1
  refine ⟨k1, ?_⟩
  rw [k3]
  have := Nat.mul_le_mul_right (2 ^ 925) h2
  rw [← Nat.pow_add] at this
  exact this
/-- the remainder of floats is that of doubles -/
theorem frem_drem {u v : UInt32} (hu : Jvm.FP.Core.FFin u) (hv : Jvm.FP.Core.FFin v) (hz : wm v ≠ 0) : Jvm.FP.Core.FFin (FP.frem u v) ∧ FP.f2d (FP.frem u v) = FP.drem (FP.f2d u) (FP.f2d v) := by
  have hnv : Jvm.FP.Core.val32 v ≠ .nan := by obtain ⟨s, c, q, h⟩ := hv; rw [h]; exact Jvm.FP.Core.Datum.noConfusion
  have hzz : ¬ Jvm.FP.Core.FZero v := by
    rintro ⟨s, q, h⟩
    apply hz
    show Jvm.FP.Core.zmag _ _ = 0
    rw [h]
    show 0 * _ = 0
    rw [Nat.zero_mul]
  obtain ⟨r1, r2, r3⟩ := Jvm.FP.Core.frem_zval hu hnv hzz
  have hb : wm v < Jvm.FP.Core.b32.tails * 2 ^ (Jvm.FP.Core.b32.exps - 2) := Jvm.FP.Core.FFin.zval_lt hv
  have hr : Jvm.FP.Core.FFin (FP.frem u v) := by
    cases hx : Jvm.FP.Core.val32 (FP.frem u v) with
    | nan => exact absurd hx r1
    | inf s =>
      rw [hx] at r3
      have e1 : Jvm.FP.Core.b32.tails * 2 ^ (Jvm.FP.Core.b32.exps - 2) = wm u % wm v := r3
      have := Nat.mod_lt (wm u) (Nat.pos_of_ne_zero hz)
      rw [← e1] at this
      exact absurd (Nat.lt_trans hb this) (Nat.lt_irrefl _)
    | fin s c q => exact ⟨s, c, q, hx⟩
  refine ⟨hr, ?_⟩
  obtain ⟨a1, a2, a3⟩ := f2d_ex hu
  obtain ⟨b1, -, b3⟩ := f2d_ex hv
  obtain ⟨c1, c2, c3⟩ := f2d_ex hr
  have hz2 : vm (FP.f2d v) ≠ 0 := by
    rw [b3]
    exact Nat.ne_of_gt (Nat.mul_pos (Nat.pos_of_ne_zero hz) (Nat.two_pow_pos _))
  obtain ⟨d1, d2, d3⟩ := drem_fi a1 b1 hz2
  refine vm_inj c1 d1 ?_ ?_
  · rw [c2, d2, a2]; exact r2
  · rw [c3, d3, a3, b3, Nat.mul_mod_mul_right]
    exact congrArg (· * 2 ^ 925) r3
theorem fi_f360 : Jvm.FP.Core.FFin 1135869952 := Jvm.Free.Fl.fin32_core.mp (by unfold Jvm.Free.Fl.Fin32; decide)
theorem d360 : FP.f2d 1135869952 = 4645040803167600640 := by decide +kernel
theorem wm_360 : wm 1135869952 ≠ 0 := by decide +kernel
theorem fi_360 : Fi 4645040803167600640 := by rw [← d360]; exact (f2d_ex fi_f360).1
theorem vm_360 : vm 4645040803167600640 ≠ 0 := by
  rw [← d360]
  show vm (FP.f2d 1135869952) ≠ 0
  rw [(f2d_ex fi_f360).2.2]
  exact Nat.ne_of_gt (Nat.mul_pos (Nat.pos_of_ne_zero wm_360) (Nat.two_pow_pos _))
theorem sm_drem {a b : UInt64} (ha : Sm a) (hb : Fi b) (hz : vm b ≠ 0) : Sm (FP.drem a b) := by
  obtain ⟨d1, -, d3⟩ := drem_fi ha.1 hb hz
  exact ⟨d1, by rw [d3]; exact Nat.le_trans (Nat.mod_le _ _) ha.2⟩
theorem sm_neg {a : UInt64} (ha : Sm a) : Sm (FP.dneg a) := by
  obtain ⟨d1, -, d3⟩ := dneg_fi ha.1
  exact ⟨d1, by rw [d3]; exact ha.2⟩
/-- a whole number -/
theorem whole_fi {a : UInt64} {i : Int} (h : Jvm.FP.Core.DInt i a) : Fi a ∧ vz a = i * ((2 ^ 1074 : Nat) : Int) := by
  refine ⟨?_, Jvm.FP.Core.DInt_zval h⟩
  unfold Jvm.FP.Core.DInt at h
  cases hv : Jvm.FP.Core.val64 a with
  | nan => rw [hv] at h; exact h.elim
  | inf s => rw [hv] at h; exact h.elim
  | fin s c q => exact ⟨s, c, q, hv⟩
theorem vm_abs (x : UInt64) : vm x = (vz x).natAbs := by
  cases hs : vs x with
  | false => rw [vz_pos hs]; rfl
  | true => rw [vz_neg hs, Int.natAbs_neg]; rfl
theorem sm_whole {a : UInt64} {i : Int} (h : Jvm.FP.Core.DInt i a) (hi : i.natAbs ≤ 2 ^ 41) : Sm a := by
  obtain ⟨h1, h2⟩ := whole_fi h
  refine ⟨h1, ?_⟩
  rw [vm_abs, h2, Int.natAbs_mul, Int.natAbs_natCast]
  have := Nat.mul_le_mul_right (2 ^ 1074) hi
  rw [← Nat.pow_add] at this
  exact this
theorem sm_l {x : UInt64} (h : Sm x) : Sm (FP.l2d (FP.d2l x)) := by
  have h1 := Jvm.FP.Core.d2l_val (Jvm.FP.Core.DFin.ne_nan h.1)
  have h2 : vm x / Jvm.FP.Core.one64 ≤ 2 ^ 41 := by
    have e : (2 : Nat) ^ 1115 = 2 ^ 41 * Jvm.FP.Core.one64 := by unfold Jvm.FP.Core.one64; rw [← Nat.pow_add]
    have := h.2
    rw [e] at this
    exact Nat.div_le_of_le_mul (by rw [Nat.mul_comm]; exact this)
  have h3 : (FP.d2l x).toInt.natAbs ≤ 2 ^ 41 := by
    rw [h1]
    generalize vm x / Jvm.FP.Core.one64 = m at h2 ⊢
    unfold Jvm.FP.Core.signed
    split <;> omega
  refine sm_whole (i := (FP.d2l x).toInt) ?_ h3
  exact Jvm.FP.Core.l2d_whole ⟨by omega, by omega⟩
theorem sm_i (x : Int32) : Sm (FP.i2d x) := sm_whole (Jvm.FP.Core.i2d_int x) (by have h1 := Int32.toInt_lt x; have h2 := Int32.le_toInt x; omega)
theorem sm_k {x : UInt64} (h : x.toNat % 2 ^ 63 < 9218868437227405312) (hv : vm x ≤ 2 ^ 1115) : Sm x := ⟨(Jvm.FP.Core.fin_bits x).mpr h, hv⟩
theorem sm_0 : Sm FP.dconst0 := sm_k (by decide) (by decide +kernel)
theorem sm_1 : Sm FP.dconst1 := sm_k (by decide) (by decide +kernel)
theorem sm_1000 : Sm 4652007308841189376 := sm_k (by decide) (by decide +kernel)
theorem sm_m1000 : Sm 13875379345695965184 := sm_k (by decide) (by decide +kernel)
/-- what is neither above 10^12 nor below -10^12 -/
theorem sm_far {v : UInt64} (hn : vf_n64 v) (h1 : dgt v 4786511204640096256 = false) (h2 : dlt v 14009883241494872064 = false) : Sm v := by
  have nv : Jvm.FP.Core.val64 v ≠ .nan := Jvm.Free.Fl.val64_no.mp hn
  have n1 : Jvm.FP.Core.val64 4786511204640096256 ≠ .nan := by decide +kernel
  have n2 : Jvm.FP.Core.val64 14009883241494872064 ≠ .nan := by decide +kernel
  have z1 : vz 4786511204640096256 = ((10 ^ 12 * 2 ^ 1074 : Nat) : Int) := by decide +kernel
  have z2 : vz 14009883241494872064 = -((10 ^ 12 * 2 ^ 1074 : Nat) : Int) := by decide +kernel
  have g1 : ¬ vz 4786511204640096256 < vz v := fun h => by
    have := Jvm.FP.Core.dcmp_gt.mpr ⟨nv, n1, h⟩
    unfold dgt at h1
    rw [show FP.dcmp v 4786511204640096256 = some .gt from this] at h1
    exact absurd h1 (by decide)
  have g2 : ¬ vz v < vz 14009883241494872064 := fun h => by
    have := Jvm.FP.Core.dcmp_lt.mpr ⟨nv, n2, h⟩
    unfold dlt at h2
    rw [show FP.dcmp v 14009883241494872064 = some .lt from this] at h2
    exact absurd h2 (by decide)
  rw [z1] at g1
  rw [z2] at g2
  have hb : vm v ≤ 10 ^ 12 * 2 ^ 1074 := by
    rw [vm_abs]
    generalize 10 ^ 12 * 2 ^ 1074 = u at g1 g2 ⊢
    omega
  have h3 : (10 : Nat) ^ 12 * 2 ^ 1074 ≤ 2 ^ 1115 := by
    rw [show (1115 : Nat) = 41 + 1074 from rfl, Nat.pow_add]
    exact Nat.mul_le_mul_right _ (by decide)
  refine ⟨?_, Nat.le_trans hb h3⟩
  cases hv : Jvm.FP.Core.val64 v with
  | nan => exact absurd hv nv
  | inf s =>
    have e : vm v = 2 ^ 2098 := by
      show Jvm.FP.Core.zmag _ _ = _
      rw [hv]; exact top64
    have e2 : (2 : Nat) ^ 1115 < 2 ^ 2098 := Nat.pow_lt_pow_right (by decide) (by decide)
    rw [e] at hb
    exact absurd (Nat.lt_of_le_of_lt (Nat.le_trans hb h3) e2) (Nat.lt_irrefl _)
  | fin s c q => exact ⟨s, c, q, hv⟩
