/-! a step more in the formula that is made -/
theorem b_nI (x i : Nat) (hi : i < 32) : bt (nI x) i = x.testBit i := by
  show (BitVec.ofNat 32 x).getLsbD i = x.testBit i
  rw [BitVec.getLsbD_ofNat]
  simp [hi]
theorem nI_or (x y : Nat) : nI x ||| nI y = nI (x ||| y) := b_ext fun i hi => by
  rw [b_or, b_nI _ _ hi, b_nI _ _ hi, b_nI _ _ hi, Nat.testBit_or]
theorem enc_eq {a w : Nat} (ha : a ≤ 17) (hw : w < 16777216) : ((nI a) <<< ((24 : Int32) &&& 31)) ||| (nI w) = enc (a, w) := by
  have h1 : ∀ a, a < 18 → (nI a) <<< ((24 : Int32) &&& 31) = nI (a * 16777216) := by decide +kernel
  rw [h1 a (by omega), nI_or]
  show nI (a * 16777216 ||| w) = nI (a * 16777216 + w)
  have h2 : a <<< 24 + w = a <<< 24 ||| w := Nat.shiftLeft_add_eq_or_of_lt (by omega) a
  rw [Nat.shiftLeft_eq] at h2
  have h3 : (2 : Nat) ^ 24 = 16777216 := by decide
  rw [h3] at h2
  rw [← h2]
section FA
variable {d : Nat} {I : Nat → Nat → Int32} {D : Nat → Nat → UInt64} {R : Nat → Nat → Option Nat} {Q : j_Po} {o z a w : Nat} {s : Nat → Nat × Nat}
/-- a step more, its name not yet -/
def FRx (z : Nat) (s : Nat → Nat × Nat) (a w : Nat) (I : Nat → Nat → Int32) (o : Nat) : Prop := I o 1 = nI (z + 1) ∧ (∀ k, k < z + 1 → I (o + 1) k = enc (fu s z (a, w) k)) ∧ (∀ v, v < 32 → bt (I o 2) v = nmB z s v) ∧ (∀ t, t < 6 → I (o + 2) t = nI (tmN z s t))
theorem nmB_fu {z : Nat} {s : Nat → Nat × Nat} {p : Nat × Nat} {v : Nat} : nmB (z + 1) (fu s z p) v = (nmB z s v || stN p v) := by
  have h : ∀ k, k ≤ z → nmB k (fu s z p) v = nmB k s v := by
    intro k
    induction k with
    | zero => intro _; rfl
    | succ k ih =>
      intro hk
      show (nmB k (fu s z p) v || stN (fu s z p k) v) = (nmB k s v || stN (s k) v)
      rw [ih (by omega), fu_n (Nat.ne_of_lt (by omega))]
  show (nmB z (fu s z p) v || stN (fu s z p z) v) = _
  rw [h z (Nat.le_refl _), fu_s]
theorem tmN_fu {z : Nat} {s : Nat → Nat × Nat} {p : Nat × Nat} {t : Nat} : tmN (z + 1) (fu s z p) t = tmN z s t + (if 13 ≤ p.1 ∧ p.2 = t then 1 else 0) := by
  have h : ∀ k, k ≤ z → tmN k (fu s z p) t = tmN k s t := by
    intro k
    induction k with
    | zero => intro _; rfl
    | succ k ih =>
      intro hk
      show tmN k (fu s z p) t + (if 13 ≤ (fu s z p k).1 ∧ (fu s z p k).2 = t then 1 else 0) = tmN k s t + (if 13 ≤ (s k).1 ∧ (s k).2 = t then 1 else 0)
      rw [ih (by omega), fu_n (Nat.ne_of_lt (by omega))]
  show tmN z (fu s z p) t + (if 13 ≤ (fu s z p z).1 ∧ (fu s z p z).2 = t then 1 else 0) = _
  rw [h z (Nat.le_refl _), fu_s]
theorem FRx.p {J : Nat → Nat → Int32} (h : FRx z s a w J o) (h1 : a ≠ 1) (h2 : a < 13) : FR (z + 1) (fu s z (a, w)) J o :=
  ⟨h.1, h.2.1, fun v hv => by
    rw [nmB_fu, h.2.2.1 v hv]
    have : stN (a, w) v = false := by unfold stN; simp only; rw [decide_eq_false (by omega), decide_eq_false (by omega)]; rfl
    rw [this, Bool.or_false], fun t ht => by
    rw [tmN_fu, if_neg (fun h => by have := h.1; simp only at this; omega)]
    exact h.2.2.2 t ht⟩
theorem c90 (ho : isF o) (hF : FR z s I o) (hz : z < 96) (ha : a ≤ 17) (hw : w < 16777216) (hq : ∀ J, (∀ o', o' ≠ o → o' ≠ o + 1 → J o' = I o') → FRx z s a w J o → Q none w1 (J, D, RR R)) : j_Call d 90 [.ref o, .int (nI a), .int (nI w)] w1 (I, D, RR R) 0 0 Q := by
  obtain ⟨f1, f2, f3, f4⟩ := hF
  have hcl : (I o 1).toNatClampNeg = z := by rw [f1]; exact nI_cln (by omega)
  have hle : ¬ 96 ≤ (I o 1) := by rw [f1, show (96 : Int32) = nI 96 from rfl]; exact fun h => by have := (nI_leI (by omega) (by omega)).mp h; omega
  refine s90 ho (Nat.zero_le _) (fun h => absurd h hle) (fun _ => ?_) (fun _ => hq _ (fun o' h1 h2 => ?_) ⟨?_, fun k hk => ?_, fun v hv => ?_, fun t ht => ?_⟩)
  · exact fun h => h.elim (fun h => by rw [f1] at h; exact nI_n0 (by omega) h) (fun h => by rw [hcl] at h; omega)
  · funext i; rw [j_u_o _ _ _ h2, j_u_o _ _ _ h1]
  · rw [j_u_o _ _ _ (by omega), j_u_same, f1]; exact nI_1 z
  · by_cases e : k = z
    · subst e
      rw [hcl, j_u_same, fu_s, enc_eq ha hw]
    · rw [hcl, j_u_k _ _ e, j_u_o _ _ _ (by omega), fu_n e]
      exact f2 k (by omega)
  · rw [j_u_o _ _ _ (by omega), j_u_k _ _ (by omega)]; exact f3 v hv
  · rw [j_u_o _ _ _ (by omega), j_u_o _ _ _ (by omega)]; exact f4 t ht
theorem c91 (ho : isF o) (hw : w < 24) (h : FRx z s 1 w I o) (hq : ∀ J, (∀ o', o' ≠ o → J o' = I o') → FR (z + 1) (fu s z (1, w)) J o → Q none w1 (J, D, RR R)) : j_Call d 91 [.ref o, .int (nI w)] w1 (I, D, RR R) 0 0 Q := by
  refine s91 ho (Nat.zero_le _) (hq _ (fun o' h1 => ?_) ⟨?_, fun k hk => ?_, fun v hv => ?_, fun t ht => ?_⟩)
  · funext i; rw [j_u_o _ _ _ h1]
  · rw [j_u_k _ _ (by omega)]; exact h.1
  · rw [j_u_o _ _ _ (by omega)]; exact h.2.1 k hk
  · rw [j_u_same, b_or, h.2.2.1 v hv, bt_one (by omega) hv, nmB_fu]
    congr 1
    unfold stN
    by_cases e : v = w
    · subst e; simp
    · have e2 : ¬ w = v := fun h => e h.symm
      simp [e, e2]
  · rw [j_u_o _ _ _ (by omega), tmN_fu, if_neg (fun h => by have := h.1; simp only at this; omega)]
    exact h.2.2.2 t ht
theorem c96 (ho : isF o) (hw : w < 6) (ha : 13 ≤ a) (h : FRx z s a w I o) (hq : ∀ J, (∀ o', o' ≠ o → o' ≠ o + 2 → J o' = I o') → FR (z + 1) (fu s z (a, w)) J o → Q none w1 (J, D, RR R)) : j_Call d 96 [.ref o, .int (nI w)] w1 (I, D, RR R) 0 0 Q := by
  refine s96 ho hw (Nat.zero_le _) (hq _ (fun o' h1 h2 => ?_) ⟨?_, fun k hk => ?_, fun v hv => ?_, fun t ht => ?_⟩)
  · funext i; rw [j_u_o _ _ _ h2, j_u_o _ _ _ h1]
  · rw [j_u_o _ _ _ (by omega), j_u_k _ _ (by omega)]; exact h.1
  · rw [j_u_o _ _ _ (by omega), j_u_o _ _ _ (by omega)]; exact h.2.1 k hk
  · rw [j_u_o _ _ _ (by omega), j_u_same, b_or, h.2.2.1 v hv, bt_one (by omega) hv, nmB_fu]
    congr 1
    unfold stN
    have h1 : ¬ a = 1 := by omega
    by_cases e : v = 24 + w
    · subst e; simp [h1, ha, Nat.add_comm]
    · have e2 : ¬ w + 24 = v := fun h => e (by omega)
      simp [h1, e, e2]
  · by_cases e : t = w
    · subst e
      rw [j_u_same, j_u_o _ _ _ (by omega), h.2.2.2 t ht, tmN_fu, if_pos ⟨ha, rfl⟩]
      exact nI_1 _
    · rw [j_u_k _ _ e, j_u_o _ _ _ (by omega), h.2.2.2 t ht, tmN_fu, if_neg (fun h => e h.2.symm), Nat.add_zero]
/-- a step more where all is lost already: only shapes are kept -/
def FRj (I : Nat → Nat → Int32) (o : Nat) : Prop := ∃ z, z ≤ 96 ∧ I o 1 = nI z
theorem c90j {x y : Int32} (ho : isF o) (hF : FRj I o) (hq : ∀ J, (∀ o', o' ≠ o → o' ≠ o + 1 → J o' = I o') → FRj J o → Q none w1 (J, D, RR R)) : j_Call d 90 [.ref o, .int x, .int y] w1 (I, D, RR R) 0 0 Q := by
  obtain ⟨z, hz, f1⟩ := hF
  have hcl : (I o 1).toNatClampNeg = z := by rw [f1]; exact nI_cln (by omega)
  have hle : 96 ≤ (I o 1) ↔ 96 ≤ z := by rw [f1, show (96 : Int32) = nI 96 from rfl]; exact nI_leI (by omega) (by omega)
  refine s90 ho (Nat.zero_le _) (fun _ => hq I (fun _ _ _ => rfl) ⟨z, hz, f1⟩) (fun h => ?_) (fun h => hq _ (fun o' h1 h2 => ?_) ⟨z + 1, by have := mt hle.mpr h; omega, ?_⟩)
  · have hz2 := mt hle.mpr h
    exact fun h => h.elim (fun h => by rw [f1] at h; exact nI_n0 (by omega) h) (fun h => by rw [hcl] at h; omega)
  · funext i; rw [j_u_o _ _ _ h2, j_u_o _ _ _ h1]
  · rw [j_u_o _ _ _ (by omega), j_u_same, f1]; exact nI_1 z
theorem FR.j (h : FR z s I o) (hz : z ≤ 96) : FRj I o := ⟨z, hz, h.1⟩
end FA
