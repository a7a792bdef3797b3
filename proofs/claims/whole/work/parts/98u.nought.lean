/-! no sum is a negative nought -/
theorem nz_is : (Jvm.FP.Core.dzeroNeg : UInt64) = 0x8000000000000000 := by decide
theorem nz_x {x : UInt64} (h : Fi x) (hs : vs x = true) (hm : vm x = 0) : x = 0x8000000000000000 := by
  obtain ⟨c, e, h1, h2, h3, h4, h5⟩ := fi_shape h
  have hc : c = 0 := by
    rw [hm] at h3
    rcases Nat.mul_eq_zero.mp h3.symm with h | h
    · exact h
    · exact absurd h (Nat.ne_of_gt (Nat.two_pow_pos _))
  have he : e = 0 := by omega
  subst hc; subst he
  rw [hs] at h1
  rw [← nz_is]
  refine Jvm.FP.Core.val64_inj (by rw [h1]; exact Jvm.FP.Core.Datum.noConfusion) ?_
  rw [h1, Jvm.FP.Core.val64_dzeroNeg]; rfl
theorem nz_v : Jvm.FP.Core.val64 0x8000000000000000 = .fin true 0 (-1074) := by decide +kernel
theorem nz_s {x : UInt64} (h : Fi x) (hz : x ≠ 0x8000000000000000) : vs x = false ∨ vm x ≠ 0 := by
  cases hs : vs x with
  | false => exact Or.inl rfl
  | true => exact Or.inr (fun hm => hz (nz_x h hs hm))
theorem dadd_ne {a b : UInt64} (ha : Fi a) (hb : Fi b) (za : a ≠ 0x8000000000000000) (zb : b ≠ 0x8000000000000000) : FP.dadd a b ≠ 0x8000000000000000 := by
  intro hz
  obtain ⟨c, e, a1, a2, a3, a4, a5⟩ := fi_shape ha
  obtain ⟨g, f, b1, b2, b3, b4, b5⟩ := fi_shape hb
  have hv : Jvm.FP.Core.val64 (FP.dadd a b) = Jvm.FP.Core.round Jvm.FP.Core.b64 (Jvm.FP.Core.exactSum (Jvm.FP.Core.val64 a) (Jvm.FP.Core.val64 b)) := Jvm.FP.Core.val64_dadd a b
  rw [hz, nz_v, a1, b1] at hv
  simp only [Jvm.FP.Core.exactSum, Jvm.FP.Core.round] at hv
  generalize hq : min (-1074 + (e : Int)) (-1074 + (f : Int)) = q at hv
  have hq1 : -1074 ≤ q := by omega
  have qe : ∃ k : Nat, -1074 + (e : Int) - q = k := ⟨(-1074 + (e : Int) - q).toNat, by omega⟩
  have qf : ∃ k : Nat, -1074 + (f : Int) - q = k := ⟨(-1074 + (f : Int) - q).toNat, by omega⟩
  obtain ⟨ke, ke1⟩ := qe
  obtain ⟨kf, kf1⟩ := qf
  by_cases v0 : Jvm.FP.Core.sumUnits (vs a) c (-1074 + (e : Int)) (vs b) g (-1074 + (f : Int)) q = 0
  · rw [v0] at hv
    have hs : Jvm.FP.Core.sumSign (vs a) (vs b) 0 = (vs a && vs b) := rfl
    rw [hs] at hv
    have hr : Jvm.FP.Core.roundRatio Jvm.FP.Core.b64 (vs a && vs b) (0 : Int).natAbs 1 q = .fin (vs a && vs b) 0 Jvm.FP.Core.b64.qmin := by
      unfold Jvm.FP.Core.roundRatio; rw [if_pos (show (0 : Int).natAbs = 0 from rfl)]
    rw [hr] at hv
    have hb2 : (vs a && vs b) = true := by injection hv with h1 h2 h3; exact h1.symm
    rw [Bool.and_eq_true] at hb2
    unfold Jvm.FP.Core.sumUnits Jvm.FP.Core.signed Jvm.FP.Core.inUnits at v0
    rw [hb2.1, hb2.2, if_pos rfl, if_pos rfl] at v0
    have n1 := (nz_s ha za).resolve_left (by rw [hb2.1]; simp)
    have hc : 0 < c := Nat.pos_of_ne_zero (fun h => n1 (by rw [a3, h, Nat.zero_mul]))
    have : 0 < c * 2 ^ (-1074 + (e : Int) - q).toNat := Nat.mul_pos hc (Nat.two_pow_pos _)
    omega
  · have hge := Jvm.FP.Core.zmag_roundRatio_ge (f := Jvm.FP.Core.b64) Jvm.FP.Core.good_b64 (s := Jvm.FP.Core.sumSign (vs a) (vs b) (Jvm.FP.Core.sumUnits (vs a) c (-1074 + (e : Int)) (vs b) g (-1074 + (f : Int)) q)) (A := (Jvm.FP.Core.sumUnits (vs a) c (-1074 + (e : Int)) (vs b) g (-1074 + (f : Int)) q).natAbs) (B := 1) (e := q) (e0 := -1074) (V := Jvm.FP.Core.val64 1) (by decide) (Jvm.FP.Core.val64_fits 1) (by decide) hq1 (by
      have h1 : Jvm.FP.Core.zmag Jvm.FP.Core.b64 (Jvm.FP.Core.val64 1) * 2 ^ (Jvm.FP.Core.b64.qmin - -1074).toNat * 1 = 1 := by decide +kernel
      rw [h1]
      unfold Jvm.FP.Core.inUnits
      exact Nat.mul_pos (by omega) (Nat.two_pow_pos _))
    rw [← hv] at hge
    exact absurd hge (by decide +kernel)
/-- the sign of a mean -/
theorem mean_vs {x : UInt64} {g : Nat} (hx : Sm x) (hg : 1 ≤ g) (hg2 : g ≤ 64) : vs (FP.ddiv x (FP.i2d (nI g))) = vs x := by
  obtain ⟨i1, i2, i3⟩ := i2d_vm (nI g)
  rw [nI_toInt (by omega)] at i2 i3
  obtain ⟨c, e, h1, -, -, -, -⟩ := fi_shape hx.1
  obtain ⟨c2, e2, g1, -, g3, -, -⟩ := fi_shape i1
  have hc2 : c2 ≠ 0 := fun h => by
    rw [h, Nat.zero_mul, i3] at g3
    have := Nat.mul_pos (show 0 < ((g : Int)).natAbs by omega) (Nat.two_pow_pos 1074)
    omega
  have hs2 : vs (FP.i2d (nI g)) = false := by rw [i2]; exact decide_eq_false (by omega)
  have hv : Jvm.FP.Core.val64 (FP.ddiv x (FP.i2d (nI g))) = Jvm.FP.Core.roundRatio Jvm.FP.Core.b64 (vs x != vs (FP.i2d (nI g))) c c2 (-1074 + e - (-1074 + e2)) := by
    rw [Jvm.FP.Core.val64_ddiv, h1, g1]
    simp only [Jvm.FP.Core.quotient]
    rw [if_neg hc2]
  rw [hs2, Bool.bne_false] at hv
  obtain ⟨s3, s4⟩ := sm_mean hx hg hg2
  obtain ⟨c3, e3, k1, -, -, -, -⟩ := fi_shape s3
  rw [k1] at hv
  rcases Jvm.FP.Core.roundRatio_cases Jvm.FP.Core.b64 (vs x) c c2 (-1074 + e - (-1074 + e2)) with ⟨c', q', h⟩ | h
  · rw [h] at hv
    injection hv
  · rw [h] at hv
    exact absurd hv Jvm.FP.Core.Datum.noConfusion
def NZ (v : Nat → Vl) (n : Nat) : Prop := ∀ k, k < n → (v k).1 = 0 → Sm (v k).2 ∧ (v k).2 ≠ 0x8000000000000000
theorem tal_ne {v : Nat → Vl} : ∀ {n : Nat}, NZ v n → (tF (tal v n) = false → tSm (tal v n) ≠ 0x8000000000000000) ∧ tL (tal v n) ≠ 0x8000000000000000 ∧ tM (tal v n) ≠ 0x8000000000000000
  | 0, _ => ⟨fun _ => (show FP.dconst0 ≠ 0x8000000000000000 by decide), (show FP.dconst0 ≠ 0x8000000000000000 by decide), (show FP.dconst0 ≠ 0x8000000000000000 by decide)⟩
  | n + 1, h => by
    obtain ⟨i1, i2, i3⟩ := tal_ne (v := v) (n := n) (fun k hk => h k (by omega))
    have ok := tal_ok (v := v) (n := n) (fun k hk h0 => (h k (by omega) h0).1)
    rw [tal]
    by_cases e : (v n).1 = 0
    · obtain ⟨s1, s2⟩ := h n (by omega) e
      have eT : talS (tal v n) n (v n) = (tG (tal v n) + 1, tB (tal v n), (if tF (tal v n) = true then tSm (tal v n) else FP.dadd (tSm (tal v n)) (v n).2), (tF (tal v n) || farB (if tF (tal v n) = true then tSm (tal v n) else FP.dadd (tSm (tal v n)) (v n).2)), (if tG (tal v n) = 0 ∨ dlt (v n).2 (tL (tal v n)) = true then (v n).2 else tL (tal v n)), (if tG (tal v n) = 0 ∨ dgt (v n).2 (tM (tal v n)) = true then (v n).2 else tM (tal v n)), (if tG (tal v n) = 0 ∨ dlt (v n).2 (tL (tal v n)) = true then n else tl (tal v n)), (if tG (tal v n) = 0 ∨ dgt (v n).2 (tM (tal v n)) = true then n else tm (tal v n))) := by unfold talS; rw [if_pos e]
      rw [eT]
      refine ⟨fun hf => ?_, ?_, ?_⟩
      · have hf : (tF (tal v n) || farB (if tF (tal v n) = true then tSm (tal v n) else FP.dadd (tSm (tal v n)) (v n).2)) = false := hf
        rw [Bool.or_eq_false_iff] at hf
        show (if tF (tal v n) = true then tSm (tal v n) else FP.dadd (tSm (tal v n)) (v n).2) ≠ _
        rw [hf.1, if_neg (by simp)]
        exact dadd_ne (ok.2.1 hf.1).1 s1.1 (i1 hf.1) s2
      · show (if tG (tal v n) = 0 ∨ dlt (v n).2 (tL (tal v n)) = true then (v n).2 else tL (tal v n)) ≠ _
        split
        · exact s2
        · exact i2
      · show (if tG (tal v n) = 0 ∨ dgt (v n).2 (tM (tal v n)) = true then (v n).2 else tM (tal v n)) ≠ _
        split
        · exact s2
        · exact i3
    · have eT : talS (tal v n) n (v n) = (tG (tal v n), tB (tal v n) + 1, tSm (tal v n), tF (tal v n), tL (tal v n), tM (tal v n), tl (tal v n), tm (tal v n)) := by unfold talS; rw [if_neg e]
      rw [eT]; exact ⟨i1, i2, i3⟩
