/-! differences -/
theorem dsub_xe {a b : UInt64} (ha : Fi a) (hb : Fi b) : ∃ (sg : Bool) (n : Nat) (e : Int), Jvm.FP.Core.val64 (FP.dsub a b) = Jvm.FP.Core.roundRatio Jvm.FP.Core.b64 sg n 1 e ∧ Jvm.FP.Core.b64.qmin ≤ e ∧ Jvm.FP.Core.signed sg (Jvm.FP.Core.inUnits n e Jvm.FP.Core.b64.qmin) = vz a - vz b := by
  obtain ⟨s, c, q, hx⟩ := ha
  obtain ⟨t, d, r, hy⟩ := hb
  have fx := Jvm.FP.Core.val64_fits a
  have fy := Jvm.FP.Core.negate_fits (Jvm.FP.Core.val64_fits b)
  rw [hx] at fx
  rw [hy] at fy
  have fy : Jvm.FP.Core.fits Jvm.FP.Core.b64 (.fin (!t) d r) := fy
  obtain ⟨sg, n, e, p1, p2, p3⟩ := Jvm.FP.Core.sum_units fx fy
  have hv : Jvm.FP.Core.val64 (FP.dsub a b) = Jvm.FP.Core.round Jvm.FP.Core.b64 (Jvm.FP.Core.exactSum (Jvm.FP.Core.val64 a) (Jvm.FP.Core.negate (Jvm.FP.Core.val64 b))) := Jvm.FP.Core.val64_dsub a b
  refine ⟨sg, n, e, ?_, p2, ?_⟩
  · rw [hv, hx, hy]
    show Jvm.FP.Core.round Jvm.FP.Core.b64 (Jvm.FP.Core.exactSum (.fin s c q) (.fin (!t) d r)) = _
    rw [p1]; rfl
  · rw [p3, show (Jvm.FP.Core.Datum.fin (!t) d r) = Jvm.FP.Core.negate (.fin t d r) from rfl, Jvm.FP.Core.zval_negate]
    show _ = Jvm.FP.Core.zval _ (Jvm.FP.Core.val64 a) - Jvm.FP.Core.zval _ (Jvm.FP.Core.val64 b)
    rw [hx, hy]; exact Int.sub_eq_add_neg.symm
theorem dsub_le {a b V : UInt64} (ha : Fi a) (hb : Fi b) (hV : Jvm.FP.Core.val64 V ≠ .nan) (h : vz a - vz b ≤ vz V) : vz (FP.dsub a b) ≤ vz V := by
  obtain ⟨sg, n, e, h1, h2, h3⟩ := dsub_xe ha hb
  show Jvm.FP.Core.zval _ (Jvm.FP.Core.val64 (FP.dsub a b)) ≤ _
  rw [h1]
  exact Jvm.FP.Core.zval_round_le Jvm.FP.Core.good_b64 (s := sg) (c := n) (q := e) (Jvm.FP.Core.val64_fits V) hV (Int.le_refl _) h2 (by
    rw [h3, Int.sub_self]
    show _ ≤ vz V * ((2 ^ 0 : Nat) : Int)
    rw [Nat.pow_zero, Int.natCast_one, Int.mul_one]; exact h)
theorem dsub_ge {a b V : UInt64} (ha : Fi a) (hb : Fi b) (hV : Jvm.FP.Core.val64 V ≠ .nan) (h : vz V ≤ vz a - vz b) : vz V ≤ vz (FP.dsub a b) := by
  obtain ⟨sg, n, e, h1, h2, h3⟩ := dsub_xe ha hb
  show _ ≤ Jvm.FP.Core.zval _ (Jvm.FP.Core.val64 (FP.dsub a b))
  rw [h1]
  exact Jvm.FP.Core.zval_round_ge Jvm.FP.Core.good_b64 (s := sg) (c := n) (q := e) (Jvm.FP.Core.val64_fits V) hV (Int.le_refl _) h2 (by
    rw [h3, Int.sub_self]
    show vz V * ((2 ^ 0 : Nat) : Int) ≤ _
    rw [Nat.pow_zero, Int.natCast_one, Int.mul_one]; exact h)
theorem dsub_nn {a b : UInt64} (ha : Fi a) (hb : Fi b) : Jvm.FP.Core.val64 (FP.dsub a b) ≠ .nan := by
  obtain ⟨sg, n, e, h1, -, -⟩ := dsub_xe ha hb
  rw [h1]; exact Jvm.FP.Core.roundRatio_ne_nan _ _ _ _ _
theorem fi_of_vz {x : UInt64} (hn : Jvm.FP.Core.val64 x ≠ .nan) (h : vm x ≤ 2 ^ 1116) : Fi x := by
  cases hv : Jvm.FP.Core.val64 x with
  | nan => exact absurd hv hn
  | inf s =>
    have e : vm x = 2 ^ 2098 := by
      show Jvm.FP.Core.zmag _ _ = _
      rw [hv]; exact top64
    have e2 : (2 : Nat) ^ 1116 < 2 ^ 2098 := Nat.pow_lt_pow_right (by decide) (by decide)
    rw [e] at h
    exact absurd (Nat.lt_of_le_of_lt h e2) (Nat.lt_irrefl _)
  | fin s c q => exact ⟨s, c, q, hv⟩
theorem vm_of_z {x : UInt64} {M : Nat} (h1 : vz x ≤ (M : Int)) (h2 : -(M : Int) ≤ vz x) : vm x ≤ M := by
  rw [vm_abs]; omega
theorem vz_of_m {x : UInt64} {M : Nat} (h : vm x ≤ M) : vz x ≤ (M : Int) ∧ -(M : Int) ≤ vz x := by
  rw [vm_abs] at h; omega
theorem vz42 : vz 4796333603149578240 = ((2 ^ 1116 : Nat) : Int) ∧ vz 14019705640004354048 = -((2 ^ 1116 : Nat) : Int) := by decide +kernel
theorem vz41 : vz 4791830003522207744 = ((2 ^ 1115 : Nat) : Int) ∧ vz 14015202040376983552 = -((2 ^ 1115 : Nat) : Int) := by decide +kernel
theorem vz_least : vz 1 = 1 ∧ vz 9223372036854775809 = -1 := by decide +kernel
theorem nn42 : Jvm.FP.Core.val64 4796333603149578240 ≠ .nan ∧ Jvm.FP.Core.val64 14019705640004354048 ≠ .nan := by decide +kernel
theorem nn41 : Jvm.FP.Core.val64 4791830003522207744 ≠ .nan ∧ Jvm.FP.Core.val64 14015202040376983552 ≠ .nan := by decide +kernel
theorem nn_least : Jvm.FP.Core.val64 1 ≠ .nan ∧ Jvm.FP.Core.val64 9223372036854775809 ≠ .nan := by decide +kernel
theorem pow2_2 (k : Nat) : (2 : Nat) ^ (k + 1) = 2 ^ k + 2 ^ k := by rw [Nat.pow_succ]; omega
/-- a difference of two values -/
theorem dsub_fi {a b : UInt64} (ha : Sm a) (hb : Sm b) : Fi (FP.dsub a b) := by
  obtain ⟨a1, a2⟩ := vz_of_m ha.2
  obtain ⟨b1, b2⟩ := vz_of_m hb.2
  have e := pow2_2 1115
  have h1 := dsub_le (V := 4796333603149578240) ha.1 hb.1 nn42.1 (by rw [vz42.1, e]; omega)
  have h2 := dsub_ge (V := 14019705640004354048) ha.1 hb.1 nn42.2 (by rw [vz42.2, e]; omega)
  rw [vz42.1] at h1
  rw [vz42.2] at h2
  exact fi_of_vz (dsub_nn ha.1 hb.1) (vm_of_z h1 h2)
theorem sm_sub {a b : UInt64} (ha : Fi a) (hb : Fi b) (hm : vm a ≤ 2 ^ 1094) (hm2 : vm b ≤ 2 ^ 1094) : Sm (FP.dsub a b) := by
  obtain ⟨a1, a2⟩ := vz_of_m hm
  obtain ⟨b1, b2⟩ := vz_of_m hm2
  have e := pow2_2 1094
  have e2 : (2 : Nat) ^ (1094 + 1) ≤ 2 ^ 1115 := Nat.pow_le_pow_right (by decide) (by decide)
  have h1 := dsub_le (V := 4791830003522207744) ha hb nn41.1 (by rw [vz41.1]; omega)
  have h2 := dsub_ge (V := 14015202040376983552) ha hb nn41.2 (by rw [vz41.2]; omega)
  rw [vz41.1] at h1
  rw [vz41.2] at h2
  have h3 := vm_of_z h1 h2
  exact ⟨fi_of_vz (dsub_nn ha hb) (Nat.le_trans h3 (Nat.pow_le_pow_right (by decide) (by decide))), h3⟩
theorem dneg_neg {b : UInt64} (hb : Fi b) : FP.dneg (FP.dneg b) = b := by
  obtain ⟨h1, h2, h3⟩ := dneg_fi hb
  obtain ⟨k1, k2, k3⟩ := dneg_fi h1
  exact vm_inj k1 hb (by rw [k2, h2, Bool.not_not]) (by rw [k3, h3])
theorem dneg_c {b : UInt64} (hb : Fi b) : FP.dneg b = Jvm.FP.Core.dneg b := Jvm.FP.dneg_core (Jvm.Free.Fl.noNaN64_no.mp (fi_nn hb))
theorem dadd_sub {a b : UInt64} (hb : Fi b) : FP.dadd a b = FP.dsub a (FP.dneg b) := by
  have h : FP.dsub a (FP.dneg b) = FP.dadd a (Jvm.FP.Core.dneg (FP.dneg b)) := Jvm.FP.Core.dsub_eq a (FP.dneg b)
  rw [h, ← dneg_c (dneg_fi hb).1, dneg_neg hb]
theorem sm_add {a b : UInt64} (ha : Fi a) (hb : Fi b) (hm : vm a ≤ 2 ^ 1094) (hm2 : vm b ≤ 2 ^ 1094) : Sm (FP.dadd a b) := by
  obtain ⟨h1, h2, h3⟩ := dneg_fi hb
  rw [dadd_sub hb]
  exact sm_sub ha h1 hm (by rw [h3]; exact hm2)
theorem dsub_neg {a b : UInt64} (ha : Fi a) (hb : Fi b) (h : vz a < vz b) : vz (FP.dsub a b) < 0 := by
  have := dsub_le (V := 9223372036854775809) ha hb nn_least.2 (by rw [vz_least.2]; omega)
  rw [vz_least.2] at this; omega
theorem dsub_pos {a b : UInt64} (ha : Fi a) (hb : Fi b) (h : vz b < vz a) : 0 < vz (FP.dsub a b) := by
  have := dsub_ge (V := 1) ha hb nn_least.1 (by rw [vz_least.1]; omega)
  rw [vz_least.1] at this; omega
theorem feq {a b : UInt64} (ha : Fi a) (hb : Fi b) (za : a ≠ 0x8000000000000000) (zb : b ≠ 0x8000000000000000) (h : vz a = vz b) : a = b := by
  have na := nz_s ha za
  have nb := nz_s hb zb
  cases sa : vs a with
  | true =>
    cases sb : vs b with
    | true =>
      rw [vz_neg sa, vz_neg sb] at h
      exact vm_inj ha hb (by rw [sa, sb]) (by omega)
    | false =>
      rw [vz_neg sa, vz_pos sb] at h
      have := na.resolve_left (by rw [sa]; simp)
      omega
  | false =>
    cases sb : vs b with
    | true =>
      rw [vz_pos sa, vz_neg sb] at h
      have := nb.resolve_left (by rw [sb]; simp)
      omega
    | false =>
      rw [vz_pos sa, vz_pos sb] at h
      exact vm_inj ha hb (by rw [sa, sb]) (by omega)
theorem dsub_self' {a : UInt64} (ha : Fi a) : FP.dsub a a = FP.dconst0 := by
  obtain ⟨s, c, q, h⟩ := ha
  exact Jvm.FP.Core.dsub_self h
theorem dsub_sw {a b : UInt64} (ha : Fi a) (hb : Fi b) (hne : vz a ≠ vz b) (hf : Fi (FP.dsub a b)) : FP.dsub b a = FP.dneg (FP.dsub a b) := by
  have hn2 := dsub_nn hb ha
  obtain ⟨s, c, q, hx⟩ := ha
  obtain ⟨t, d, r, hy⟩ := hb
  have fx := Jvm.FP.Core.val64_fits a
  have fy := Jvm.FP.Core.negate_fits (Jvm.FP.Core.val64_fits b)
  rw [hx] at fx
  rw [hy] at fy
  have fy : Jvm.FP.Core.fits Jvm.FP.Core.b64 (.fin (!t) d r) := fy
  obtain ⟨sg, n, e, p1, p2, p3⟩ := Jvm.FP.Core.sum_units fx fy
  have h1 : Jvm.FP.Core.val64 (FP.dsub a b) = Jvm.FP.Core.round Jvm.FP.Core.b64 (Jvm.FP.Core.exactSum (.fin s c q) (.fin (!t) d r)) := by
    have := Jvm.FP.Core.val64_dsub a b
    rw [hx, hy] at this; exact this
  have h2 : Jvm.FP.Core.val64 (FP.dsub b a) = Jvm.FP.Core.round Jvm.FP.Core.b64 (Jvm.FP.Core.exactSum (.fin t d r) (.fin (!s) c q)) := by
    have := Jvm.FP.Core.val64_dsub b a
    rw [hx, hy] at this; exact this
  have hm : min r q = min q r := Int.min_comm r q
  have hs : ∀ (u : Bool) (k : Nat), Jvm.FP.Core.signed (!u) k = - Jvm.FP.Core.signed u k := fun u k => by cases u <;> simp [Jvm.FP.Core.signed]
  have hvv : Jvm.FP.Core.sumUnits t d r (!s) c q (min r q) = - Jvm.FP.Core.sumUnits s c q (!t) d r (min q r) := by
    unfold Jvm.FP.Core.sumUnits
    rw [hm, hs, hs]; omega
  have hv0 : Jvm.FP.Core.sumUnits s c q (!t) d r (min q r) ≠ 0 := fun h0 => by
    have p1' : Jvm.FP.Core.Datum.fin (Jvm.FP.Core.sumSign s (!t) (Jvm.FP.Core.sumUnits s c q (!t) d r (min q r))) (Jvm.FP.Core.sumUnits s c q (!t) d r (min q r)).natAbs (min q r) = .fin sg n e := p1
    rw [h0] at p1'
    injection p1' with q1 q2 q3
    have hn0 : n = 0 := q2.symm
    rw [hn0] at p3
    have z0 : Jvm.FP.Core.signed sg (Jvm.FP.Core.inUnits 0 e Jvm.FP.Core.b64.qmin) = 0 := by
      unfold Jvm.FP.Core.inUnits Jvm.FP.Core.signed
      rw [Nat.zero_mul]; split <;> rfl
    rw [z0, show (Jvm.FP.Core.Datum.fin (!t) d r) = Jvm.FP.Core.negate (.fin t d r) from rfl, Jvm.FP.Core.zval_negate] at p3
    refine hne ?_
    show Jvm.FP.Core.zval _ (Jvm.FP.Core.val64 a) = Jvm.FP.Core.zval _ (Jvm.FP.Core.val64 b)
    rw [hx, hy]; omega
  have key : Jvm.FP.Core.exactSum (.fin t d r) (.fin (!s) c q) = Jvm.FP.Core.negate (Jvm.FP.Core.exactSum (.fin s c q) (.fin (!t) d r)) := by
    show Jvm.FP.Core.Datum.fin (Jvm.FP.Core.sumSign t (!s) (Jvm.FP.Core.sumUnits t d r (!s) c q (min r q))) (Jvm.FP.Core.sumUnits t d r (!s) c q (min r q)).natAbs (min r q) = Jvm.FP.Core.Datum.fin (!(Jvm.FP.Core.sumSign s (!t) (Jvm.FP.Core.sumUnits s c q (!t) d r (min q r)))) (Jvm.FP.Core.sumUnits s c q (!t) d r (min q r)).natAbs (min q r)
    rw [hvv, hm, Int.natAbs_neg]
    generalize Jvm.FP.Core.sumUnits s c q (!t) d r (min q r) = v at hv0 ⊢
    congr 1
    unfold Jvm.FP.Core.sumSign
    rw [if_neg (by omega), if_neg hv0]
    by_cases h : v < 0
    · rw [decide_eq_true h, decide_eq_false (by omega)]; rfl
    · rw [decide_eq_false h, decide_eq_true (by omega)]; rfl
  refine Jvm.FP.Core.val64_inj hn2 ?_
  rw [h2, key, ← Jvm.FP.Core.negate_round, ← h1, dneg_c hf, Jvm.FP.Core.val64_dneg]
/-- how far apart -/
def absV (a b : UInt64) : UInt64 := FP.dsub a b &&& 0x7fffffffffffffff
theorem absV_eq {a b : UInt64} (ha : Sm a) (hb : Sm b) (za : a ≠ 0x8000000000000000) (zb : b ≠ 0x8000000000000000) : absV a b = if dlt a b = true then FP.dsub b a else FP.dsub a b := by
  have hf := dsub_fi ha hb
  have z0 : Jvm.FP.Core.val64 0 ≠ .nan := by decide +kernel
  have v0 : vz 0 = 0 := by decide +kernel
  unfold absV
  by_cases h : vz a < vz b
  · rw [if_pos ((dlt_iff ha.1 hb.1).mpr h), dsub_sw ha.1 hb.1 (by omega) hf, dneg_c hf]
    exact Jvm.FP.Core.abs_neg (Jvm.FP.Core.dcmp_lt.mpr ⟨Jvm.FP.Core.DFin.ne_nan hf, z0, by
      have := dsub_neg ha.1 hb.1 h
      show vz _ < vz 0
      rw [v0]; exact this⟩)
  · rw [if_neg (fun q => h ((dlt_iff ha.1 hb.1).mp q))]
    by_cases h2 : vz b < vz a
    · exact Jvm.FP.Core.abs_pos (Jvm.FP.Core.dcmp_gt.mpr ⟨Jvm.FP.Core.DFin.ne_nan hf, z0, by
        have := dsub_pos ha.1 hb.1 h2
        show vz 0 < vz _
        rw [v0]; exact this⟩)
    · have e : a = b := feq ha.1 hb.1 za zb (by omega)
      subst e
      rw [dsub_self' ha.1]; decide
theorem absV_fi {a b : UInt64} (ha : Sm a) (hb : Sm b) (za : a ≠ 0x8000000000000000) (zb : b ≠ 0x8000000000000000) : Fi (absV a b) ∧ 0 ≤ vz (absV a b) ∧ absV a b ≠ 0x8000000000000000 := by
  have e := absV_eq ha hb za zb
  have nm : absV a b ≠ 0x8000000000000000 := fun h => by
    unfold absV at h
    have h2 := congrArg UInt64.toNat h
    rw [Jvm.FP.Core.mask_toNat] at h2
    have : (0x8000000000000000 : UInt64).toNat = 2 ^ 63 := rfl
    rw [this] at h2
    have h3 := Nat.mod_lt (FP.dsub a b).toNat (show 0 < 2 ^ 63 by decide)
    omega
  refine ⟨?_, ?_, nm⟩
  · rw [e]; split
    · exact dsub_fi hb ha
    · exact dsub_fi ha hb
  · rw [e]
    by_cases h : vz a < vz b
    · rw [if_pos ((dlt_iff ha.1 hb.1).mpr h)]
      have := dsub_pos hb.1 ha.1 h; omega
    · rw [if_neg (fun q => h ((dlt_iff ha.1 hb.1).mp q))]
      by_cases h2 : vz b < vz a
      · have := dsub_pos ha.1 hb.1 h2; omega
      · have e : a = b := feq ha.1 hb.1 za zb (by omega)
        subst e
        rw [dsub_self' ha.1, vz_0]; exact Int.le_refl _
/-- a sum is -0 only where its first part is -/
theorem dadd_ne1 {a b : UInt64} (ha : Fi a) (za : a ≠ 0x8000000000000000) (hf : Fi (FP.dadd a b)) : FP.dadd a b ≠ 0x8000000000000000 := by
  have hfb : Fi b ∨ ¬ Fi b := Classical.em _
  rcases hfb with hb | hb
  · intro hz
    obtain ⟨n1, n2, n3⟩ := dneg_fi hb
    have e := dadd_sub (a := a) hb
    have hz2 : vz (FP.dsub a (FP.dneg b)) = 0 := by
      rw [← e, hz]; decide +kernel
    have heq : vz a = vz (FP.dneg b) := by
      rcases Int.lt_trichotomy (vz a) (vz (FP.dneg b)) with h | h | h
      · have := dsub_neg ha n1 h; omega
      · exact h
      · have := dsub_pos ha n1 h; omega
    by_cases zb : FP.dneg b = 0x8000000000000000
    · have v8 : vz 0x8000000000000000 = 0 := by decide +kernel
      have hb0 : b = FP.dconst0 := by
        rw [← dneg_neg hb, zb]; decide +kernel
      rw [zb, v8] at heq
      have ha0 : a = FP.dconst0 := feq ha fi_0 za (by decide) (by rw [heq, vz_0])
      rw [ha0, hb0] at hz
      exact absurd hz (by decide +kernel)
    · have hab := feq ha n1 za zb heq
      rw [e, ← hab, dsub_self' ha] at hz
      exact absurd hz (by decide)
  · exfalso
    obtain ⟨s, c, q, hx⟩ := ha
    obtain ⟨s2, c2, q2, hy⟩ := hf
    have hv : Jvm.FP.Core.val64 (FP.dadd a b) = Jvm.FP.Core.round Jvm.FP.Core.b64 (Jvm.FP.Core.exactSum (Jvm.FP.Core.val64 a) (Jvm.FP.Core.val64 b)) := Jvm.FP.Core.val64_dadd a b
    rw [hy, hx] at hv
    cases hbv : Jvm.FP.Core.val64 b with
    | nan => rw [hbv] at hv; exact Jvm.FP.Core.Datum.noConfusion hv
    | inf t => rw [hbv] at hv; exact Jvm.FP.Core.Datum.noConfusion hv
    | fin t d r => exact hb ⟨t, d, r, hbv⟩
