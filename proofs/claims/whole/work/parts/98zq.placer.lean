/-! asks: the place of a case -/
def plK (l : Bool) (T : Tl) : Nat := if l = true then tl T else tm T
def plX (l : Bool) (T : Tl) : UInt64 := if l = true then tL T else tM T
def plV (l : Bool) (w : Nat) (T : Tl) : Int32 := if tG T = 0 then -1 else nI (10 * (plK l T / w) + plK l T % w)
section PL
variable {β : Bd} {I : Nat → Nat → Int32} {D : Nat → Nat → UInt64} {R : Nat → Nat → Option Nat} {Q : j_Po}
theorem c261s {d t w i j : Nat} {l : Bool} {T : Tl} {v : Vl} {x : UInt64} (hi : i < 8) (hj : j < w) (hw : w ≤ 8) (hv : VQ (I 260 31) (I 260 32) (D 260 30) v) (hk : plK l T < 200) (hx : ¬ tG T = 0 → x = plX l T ∧ Sm (plX l T)) (hd : 5 ≤ d) (hq : ∀ x', (¬ tG (talS T (i * w + j) v) = 0 → x' = plX l (talS T (i * w + j) v)) → j_W 261 d 0 0 0 0 50 [some (.ref 260), some (.int (nI t)), some (.int (bi l)), some (.int (plV l w (talS T (i * w + j) v))), some (.double x'), none, some (.int (nI w)), some (.int (nI i)), some (.int (nI (j + 1)))] [] w1 (I, D, RR R) Q) : j_W 261 d 0 0 0 0 66 [some (.ref 260), some (.int (nI t)), some (.int (bi l)), some (.int (plV l w T)), some (.double x), none, some (.int (nI w)), some (.int (nI i)), some (.int (nI j))] [] w1 (I, D, RR R) Q := by
  have z := hv.z
  have hdiv : (i * w + j) / w = i ∧ (i * w + j) % w = j := ⟨by rw [Nat.mul_comm, Nat.mul_add_div (by omega), Nat.div_eq_of_lt hj, Nat.add_zero], by rw [Nat.mul_comm, Nat.mul_add_mod, Nat.mod_eq_of_lt hj]⟩
  have bd : 10 * (plK l T / w) + plK l T % w < 2 ^ 31 := by
    have h1 := Nat.div_le_self (plK l T) w
    have h2 := Nat.mod_le (plK l T) w
    omega
  have pm : plV l w T = -1 ↔ tG T = 0 := by
    unfold plV
    by_cases h : tG T = 0
    · rw [if_pos h]; exact ⟨fun _ => h, fun _ => rfl⟩
    · rw [if_neg h]
      refine ⟨fun q => ?_, fun q => absurd q h⟩
      have e := congrArg Int32.toInt q
      rw [nI_toInt bd] at e
      have : (-1 : Int32).toInt = -1 := rfl
      omega
  have bad : ¬ v.1 = 0 → talS T (i * w + j) v = (tG T, tB T + 1, tSm T, tF T, tL T, tM T, tl T, tm T) := fun h => by unfold talS; rw [if_neg h]
  have good : v.1 = 0 → talS T (i * w + j) v = (tG T + 1, tB T, (if tF T = true then tSm T else FP.dadd (tSm T) v.2), (tF T || farB (if tF T = true then tSm T else FP.dadd (tSm T) v.2)), (if tG T = 0 ∨ dlt v.2 (tL T) = true then v.2 else tL T), (if tG T = 0 ∨ dgt v.2 (tM T) = true then v.2 else tM T), (if tG T = 0 ∨ dlt v.2 (tL T) = true then i * w + j else tl T), (if tG T = 0 ∨ dgt v.2 (tM T) = true then i * w + j else tm T)) := fun h => by unfold talS; rw [if_pos h]
  -- what a good case does
  have new : v.1 = 0 → (tG T = 0 ∨ (if l = true then dlt v.2 (tL T) else dgt v.2 (tM T)) = true) → plV l w (talS T (i * w + j) v) = nI (10 * i + j) ∧ plX l (talS T (i * w + j) v) = v.2 := fun h0 h => by
    rw [good h0]
    unfold plV plK plX
    cases l with
    | true =>
      have h : tG T = 0 ∨ dlt v.2 (tL T) = true := by simpa using h
      simp only [if_true, if_pos h, hdiv.1, hdiv.2]
      exact ⟨if_neg (Nat.succ_ne_zero _), trivial⟩
    | false =>
      have h : tG T = 0 ∨ dgt v.2 (tM T) = true := by simpa using h
      simp only [Bool.false_eq_true, if_false, if_pos h, hdiv.1, hdiv.2]
      exact ⟨if_neg (Nat.succ_ne_zero _), trivial⟩
  have old : v.1 = 0 → ¬ tG T = 0 → (if l = true then dlt v.2 (tL T) else dgt v.2 (tM T)) = false → plV l w (talS T (i * w + j) v) = plV l w T ∧ plX l (talS T (i * w + j) v) = plX l T := fun h0 hg h => by
    rw [good h0]
    unfold plV plK plX
    cases l with
    | true =>
      have h : dlt v.2 (tL T) = false := by simpa using h
      have h2 : ¬ (tG T = 0 ∨ dlt v.2 (tL T) = true) := fun q => q.elim hg (fun q => by rw [h] at q; cases q)
      simp only [if_true, if_neg h2, if_neg hg]
      exact ⟨if_neg (Nat.succ_ne_zero _), trivial⟩
    | false =>
      have h : dgt v.2 (tM T) = false := by simpa using h
      have h2 : ¬ (tG T = 0 ∨ dgt v.2 (tM T) = true) := fun q => q.elim hg (fun q => by rw [h] at q; cases q)
      simp only [Bool.false_eq_true, if_false, if_neg h2, if_neg hg]
      exact ⟨if_neg (Nat.succ_ne_zero _), trivial⟩
  have goN : v.1 = 0 → (tG T = 0 ∨ (if l = true then dlt v.2 (tL T) else dgt v.2 (tM T)) = true) → j_W 261 d 0 0 0 0 50 [some (.ref 260), some (.int (nI t)), some (.int (bi l)), some (.int (nI ((10 * i) + j))), some (.double (D 260 30)), none, some (.int (nI w)), some (.int (nI i)), some (.int (nI (j + 1)))] [] w1 (I, D, RR R) Q := fun h0 h => by
    obtain ⟨e1, e2⟩ := new h0 h
    have := hq (D 260 30) (fun _ => by rw [e2]; exact (hv.2.2.1 h0).1)
    rw [e1] at this; exact this
  have goO : v.1 = 0 → ¬ tG T = 0 → (if l = true then dlt v.2 (tL T) else dgt v.2 (tM T)) = false → j_W 261 d 0 0 0 0 50 [some (.ref 260), some (.int (nI t)), some (.int (bi l)), some (.int (plV l w T)), some (.double x), none, some (.int (nI w)), some (.int (nI i)), some (.int (nI (j + 1)))] [] w1 (I, D, RR R) Q := fun h0 hg h => by
    obtain ⟨e1, e2⟩ := old h0 hg h
    have := hq x (fun _ => by rw [e2]; exact (hx hg).1)
    rw [e1] at this; exact this
  refine u261d hi (by omega) hd (fun g => ?_) (fun g g2 => goN (z.mp g) (Or.inl (pm.mp g2))) (fun g g2 gl g3 => ?_) (fun g g2 gl g3 => ?_) (fun g g2 gl g3 => ?_) (fun g g2 gl g3 => ?_)
  · have e := bad (fun q => g (z.mpr q))
    have e1 : plV l w (talS T (i * w + j) v) = plV l w T := by rw [e]; rfl
    have e2 : plX l (talS T (i * w + j) v) = plX l T := by rw [e]; rfl
    have := hq x (fun hg => by rw [e] at hg; rw [e2]; exact (hx hg).1)
    rw [e1] at this; exact this
  all_goals
    have hg : ¬ tG T = 0 := fun q => g2 (pm.mpr q)
    obtain ⟨x1, x2⟩ := hx hg
    obtain ⟨y1, y2⟩ := hv.2.2.1 (z.mp g)
    subst gl
    rw [y1] at g3 y2
  · have x1 : x = tM T := x1
    have x2 : Sm (tM T) := x2
    rw [x1] at g3
    refine goN (z.mp g) (Or.inr ?_)
    show dgt v.2 (tM T) = true
    rw [dgt_iff y2.1 x2.1]
    refine Int.not_le.mp (fun h => ?_)
    rw [(dle_iff y2.1 x2.1).mpr h] at g3; cases g3
  · have x1' : x = tM T := x1
    have x2 : Sm (tM T) := x2
    rw [x1'] at g3
    refine goO (z.mp g) hg ?_
    show dgt v.2 (tM T) = false
    have h := (dle_iff y2.1 x2.1).mp g3
    cases h2 : dgt v.2 (tM T) with
    | false => rfl
    | true => exact absurd ((dgt_iff y2.1 x2.1).mp h2) (by omega)
  · have x1 : x = tL T := x1
    have x2 : Sm (tL T) := x2
    rw [x1] at g3
    refine goN (z.mp g) (Or.inr ?_)
    show dlt v.2 (tL T) = true
    rw [dlt_iff y2.1 x2.1]
    refine Int.not_le.mp (fun h => ?_)
    rw [(dge_iff y2.1 x2.1).mpr h] at g3; cases g3
  · have x1' : x = tL T := x1
    have x2 : Sm (tL T) := x2
    rw [x1'] at g3
    refine goO (z.mp g) hg ?_
    show dlt v.2 (tL T) = false
    have h := (dge_iff y2.1 x2.1).mp g3
    cases h2 : dlt v.2 (tL T) with
    | false => rfl
    | true => exact absurd ((dlt_iff y2.1 x2.1).mp h2) (by omega)
end PL
