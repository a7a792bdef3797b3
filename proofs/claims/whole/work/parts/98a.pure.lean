/-! telling, as pure functions. A value: what is wrong (0 nothing, else error * 32 + blame), its number -/
abbrev Vl := Nat × UInt64
/-- how many told, how many failed, their sum, is it too far, the least, the most, their cases -/
abbrev Tl := Nat × Nat × UInt64 × Bool × UInt64 × UInt64 × Nat × Nat
abbrev tG (T : Tl) : Nat := T.1
abbrev tB (T : Tl) : Nat := T.2.1
abbrev tSm (T : Tl) : UInt64 := T.2.2.1
abbrev tF (T : Tl) : Bool := T.2.2.2.1
abbrev tL (T : Tl) : UInt64 := T.2.2.2.2.1
abbrev tM (T : Tl) : UInt64 := T.2.2.2.2.2.1
abbrev tl (T : Tl) : Nat := T.2.2.2.2.2.2.1
abbrev tm (T : Tl) : Nat := T.2.2.2.2.2.2.2
def farB (x : UInt64) : Bool := dgt x 4786511204640096256 || dlt x 14009883241494872064
def t00 : Tl := (0, 0, FP.dconst0, false, FP.dconst0, FP.dconst0, 0, 0)
def talS (T : Tl) (k : Nat) (v : Vl) : Tl :=
  if v.1 = 0 then
    let s := if tF T then tSm T else FP.dadd (tSm T) v.2
    (tG T + 1, tB T, s, tF T || farB s, if tG T = 0 ∨ dlt v.2 (tL T) = true then v.2 else tL T, if tG T = 0 ∨ dgt v.2 (tM T) = true then v.2 else tM T, if tG T = 0 ∨ dlt v.2 (tL T) = true then k else tl T, if tG T = 0 ∨ dgt v.2 (tM T) = true then k else tm T)
  else (tG T, tB T + 1, tSm T, tF T, tL T, tM T, tl T, tm T)
def tal (v : Nat → Vl) : Nat → Tl
  | 0 => t00
  | n + 1 => talS (tal v n) n (v n)
def askE (f : Nat) (T : Tl) : Nat := if 1 ≤ f ∧ f ≤ 3 ∧ tG T = 0 then 4 else if f ≤ 1 ∧ tF T = true then 3 else 0
def askN (f : Nat) (T : Tl) : UInt64 := if f = 0 then tSm T else if f = 1 then (if tG T = 0 then FP.dconst0 else FP.ddiv (tSm T) (FP.i2d (nI (tG T)))) else if f = 2 then tL T else if f = 3 then tM T else FP.i2d (nI (tB T))
def askV (c f : Nat) (T : Tl) : Vl := if askE f T = 0 then (0, askN f T) else (askE f T * 32 + c, FP.dconst0)
def opV (a : Nat) (x y : UInt64) : UInt64 := if a = 3 then FP.dadd x y else if a = 4 then FP.dsub x y else if a = 5 then FP.dmul x y else if a = 6 then FP.ddiv x y else if a = 7 then FP.drem x y else if a = 8 then (if dlt x y = true then FP.dconst1 else FP.dconst0) else if a = 9 then (if deq x y = true then FP.dconst1 else FP.dconst0) else if a = 10 then (if dlt y x = true then y else x) else (if dgt y x = true then y else x)
def twoV (a c : Nat) (u v : Vl) : Vl := if u.1 ≠ 0 then u else if v.1 ≠ 0 then v else if (a = 6 ∨ a = 7) ∧ deq v.2 FP.dconst0 = true then (64 + c, FP.dconst0) else if a ≤ 6 ∧ farB (opV a u.2 v.2) = true then (96 + c, FP.dconst0) else (0, opV a u.2 v.2)
def pickV (u v w : Vl) : Vl := if u.1 ≠ 0 then u else if deq u.2 FP.dconst0 = true then w else v
def negV (u : Vl) : Vl := (u.1, FP.dneg u.2)
/-- a step: h values stand on the stack before it -/
def stp (β : Bd) (E : Nat → Vl) (T : Nat → Tl) (c : Nat) (p : Nat × Nat) (h : Nat) (s : Nat → Vl) : Nat → Vl :=
  if p.1 = 0 then fu s h (0, fig p.2) else if p.1 = 1 then fu s h (E p.2) else if p.1 = 2 then fu s (h - 1) (negV (s (h - 1)))
  else if p.1 = 12 then fu s (h - 3) (pickV (s (h - 3)) (s (h - 2)) (s (h - 1))) else if p.1 ≤ 11 then fu s (h - 2) (twoV p.1 c (s (h - 2)) (s (h - 1)))
  else fu s h (if bL β p.2 = true then askV c (p.1 - 13) (T p.2) else (128 + c, FP.dconst0))
def runV (β : Bd) (E : Nat → Vl) (T : Nat → Tl) (c : Nat) (S : Nat → Nat × Nat) : Nat → Nat → Vl
  | 0 => fun _ => (0, FP.dconst0)
  | k + 1 => stp β E T c (S k) (hgt S k) (runV β E T c S k)
def finV (k : Nat) (v : Vl) : Vl := if v.1 = 0 then (0, kp (nI k) v.2) else v
abbrev VEnv := Nat → Vl
def wd (β : Bd) (t : Nat) : Nat := if b2 β t = none then 1 else bn β t
/-- the inputs in a case -/
def supV (β : Bd) (η : VEnv) (t i j : Nat) : VEnv := fu (match b2 β t with | none => η | some o => fu η o (0, kp (nI (bK β o)) (bA β (2 * t + 1) j))) (b1 β t) (0, kp (nI (bK β (b1 β t))) (bA β (2 * t) i))
def ev (β : Bd) : Nat → VEnv → Nat → Vl
  | 0, η, c => η c
  | r + 1, η, c => if bZ β c = 0 then η c else finV (bK β c) (runV β (ev β r η) (fun t => tal (fun q => ev β r (supV β η t (q / wd β t) (q % wd β t)) (bO β t)) (cas β t)) c (bS β c) (bZ β c) 0)
/-- the value of a cell -/
def val (β : Bd) (η : VEnv) (c : Nat) : Vl := ev β 30 η c
def tab (β : Bd) (η : VEnv) (t n : Nat) : Tl := tal (fun q => val β (supV β η t (q / wd β t) (q % wd β t)) (bO β t)) n
section PV
variable {β : Bd}
theorem runV_cg {E E' : Nat → Vl} {T T' : Nat → Tl} {c : Nat} {S : Nat → Nat × Nat} : ∀ {z : Nat}, (∀ k, k < z → (S k).1 = 1 → E (S k).2 = E' (S k).2) → (∀ k, k < z → 13 ≤ (S k).1 → bL β (S k).2 = true → T (S k).2 = T' (S k).2) → runV β E T c S z = runV β E' T' c S z
  | 0, _, _ => rfl
  | z + 1, h1, h2 => by
    have ih := runV_cg (c := c) (z := z) (fun k hk => h1 k (by omega)) (fun k hk => h2 k (by omega))
    unfold runV
    rw [ih]
    unfold stp
    by_cases a1 : (S z).1 = 1
    · rw [h1 z (by omega) a1]
      simp [a1]
    · by_cases a13 : 13 ≤ (S z).1
      · by_cases hl : bL β (S z).2 = true
        · rw [h2 z (by omega) a13 hl]; simp [a1]
        · simp [a1, hl]
      · simp [a1, show (S z).1 ≤ 12 by omega]
        have e : ∀ (X Y : Nat → Vl), (S z).1 ≠ 0 → (S z).1 ≠ 2 → (S z).1 ≠ 12 → ¬ (S z).1 ≤ 11 → X = Y := fun X Y _ _ q1 q2 => absurd (by omega : (S z).1 = 12) q1
        by_cases b0 : (S z).1 = 0
        · simp [b0]
        · by_cases b2 : (S z).1 = 2
          · simp [b2]
          · by_cases b12 : (S z).1 = 12
            · simp [b12]
            · simp [b0, b2, b12, show (S z).1 ≤ 11 by omega]
theorem nmB_1 {s : Nat → Nat × Nat} {v : Nat} : ∀ {z k : Nat}, k < z → (s k).1 = 1 → (s k).2 = v → nmB z s v = true
  | z + 1, k, hk, h1, h2 => by
    rw [nmB, Bool.or_eq_true]
    by_cases e : k = z
    · subst e
      refine Or.inr ?_
      unfold stN
      rw [decide_eq_true ⟨h1, h2⟩]; rfl
    · exact Or.inl (nmB_1 (by omega) h1 h2)
theorem nmB_13 {s : Nat → Nat × Nat} {t : Nat} : ∀ {z k : Nat}, k < z → 13 ≤ (s k).1 → (s k).2 = t → nmB z s (24 + t) = true
  | z + 1, k, hk, h1, h2 => by
    rw [nmB, Bool.or_eq_true]
    by_cases e : k = z
    · subst e
      refine Or.inr ?_
      unfold stN
      rw [decide_eq_true (show 13 ≤ (s k).1 ∧ (s k).2 + 24 = 24 + t from ⟨h1, by omega⟩), Bool.or_true]
    · exact Or.inl (nmB_13 (by omega) h1 h2)
theorem tal_cg {v v' : Nat → Vl} : ∀ {n : Nat}, (∀ q, q < n → v q = v' q) → tal v n = tal v' n
  | 0, _ => rfl
  | n + 1, h => by rw [tal, tal, tal_cg (n := n) (fun q hq => h q (by omega)), h n (by omega)]
/-- ranks of the nodes: whoever names another stands above it -/
def Rk (β : Bd) (ρ : Nat → Nat) : Prop := (∀ v, v < 30 → ρ v < 30) ∧ ∀ u v, u < 30 → v < 30 → ed β u v = true → ρ v < ρ u
theorem Rk.ex (hV : BV β) : ∃ ρ, Rk β ρ := by
  obtain ⟨ρ, hb, hρ⟩ := rank_b hV.2.2
  exact ⟨ρ, hb, hρ⟩
theorem ed_1 {c v : Nat} (hc : c < 24) (h : nmB (bZ β c) (bS β c) v = true) : ed β c v = true := by unfold ed; rw [if_pos hc]; exact h
theorem ed_t {t : Nat} (hl : bL β t = true) : ed β (24 + t) (bO β t) = true := by
  unfold ed
  rw [if_neg (by omega), show 24 + t - 24 = t by omega, hl, decide_eq_true rfl]; rfl
theorem Rk.cell {ρ : Nat → Nat} (h : Rk β ρ) (hV : BV β) {c k : Nat} (hc : c < 24) (hk : k < bZ β c) (h1 : (bS β c k).1 = 1) : (bS β c k).2 < 24 ∧ ρ (bS β c k).2 < ρ c := by
  have hw := ((hV.1 c hc).2.2.2.2.1 k hk).1.2.2.1 h1
  exact ⟨hw, h.2 c _ (by omega) (by omega) (ed_1 hc (nmB_1 hk h1 rfl))⟩
theorem Rk.tab {ρ : Nat → Nat} (h : Rk β ρ) (hV : BV β) {c k : Nat} (hc : c < 24) (hk : k < bZ β c) (h1 : 13 ≤ (bS β c k).1) : (bS β c k).2 < 6 ∧ ρ (24 + (bS β c k).2) < ρ c := by
  have hw := ((hV.1 c hc).2.2.2.2.1 k hk).1.2.2.2.2 h1
  exact ⟨hw, h.2 c _ (by omega) (by omega) (ed_1 hc (nmB_13 hk h1 rfl))⟩
theorem Rk.out {ρ : Nat → Nat} (h : Rk β ρ) (hV : BV β) {t : Nat} (ht : t < 6) (hl : bL β t = true) : bO β t < 24 ∧ ρ (bO β t) < ρ (24 + t) := by
  have ho := (hV.2.1 t ht hl).1
  exact ⟨ho, h.2 _ _ (by omega) (by omega) (ed_t hl)⟩
theorem ev_st {ρ : Nat → Nat} (hρ : Rk β ρ) (hV : BV β) : ∀ (r r' : Nat) (η : VEnv) (c : Nat), c < 24 → ρ c < r → ρ c < r' → ev β r η c = ev β r' η c
  | 0, _, _, _, _, h, _ => absurd h (Nat.not_lt_zero _)
  | _ + 1, 0, _, _, _, _, h => absurd h (Nat.not_lt_zero _)
  | r + 1, r' + 1, η, c, hc, h, h' => by
    unfold ev
    by_cases hz : bZ β c = 0
    · rw [if_pos hz, if_pos hz]
    · rw [if_neg hz, if_neg hz]
      rw [runV_cg (β := β) (E' := ev β r' η) (T' := fun t => tal (fun q => ev β r' (supV β η t (q / wd β t) (q % wd β t)) (bO β t)) (cas β t)) (fun k hk h1 => ?_) (fun k hk h1 hl => ?_)]
      · obtain ⟨a, b⟩ := hρ.cell hV hc hk h1
        exact ev_st hρ hV r r' η _ a (by omega) (by omega)
      · obtain ⟨a, b⟩ := hρ.tab hV hc hk h1
        obtain ⟨a2, b2⟩ := hρ.out hV a hl
        exact tal_cg (fun q _ => ev_st hρ hV r r' _ _ a2 (by omega) (by omega))
theorem val_eq (hV : BV β) (η : VEnv) {c : Nat} (hc : c < 24) : val β η c = if bZ β c = 0 then η c else finV (bK β c) (runV β (val β η) (fun t => tab β η t (cas β t)) c (bS β c) (bZ β c) 0) := by
  obtain ⟨ρ, hρ⟩ := Rk.ex hV
  have h0 : val β η c = ev β 31 η c := ev_st hρ hV 30 31 η c hc (hρ.1 c (by omega)) (by have := hρ.1 c (by omega); omega)
  rw [h0]; rfl
/-- what a cell reads decides it -/
theorem val_sl {Rd : Nat → Nat → Bool} (hV : BV β) (h0 : ∀ c, c < 24 → bZ β c = 0 → Rd c c = true) (h1 : ∀ c k v, c < 24 → k < 24 → v < 24 → nmB (bZ β c) (bS β c) k = true → Rd k v = true → Rd c v = true) (h2 : ∀ c t v, c < 24 → t < 6 → v < 24 → nmB (bZ β c) (bS β c) (24 + t) = true → bL β t = true → Rd (bO β t) v = true → vr β t v = false → Rd c v = true) {ρ : Nat → Nat} (hρ : Rk β ρ) : ∀ (r : Nat) (η η' : VEnv) (c : Nat), c < 24 → ρ c < r → (∀ v, v < 24 → Rd c v = true → η v = η' v) → val β η c = val β η' c
  | 0, _, _, _, _, h, _ => absurd h (Nat.not_lt_zero _)
  | r + 1, η, η', c, hc, h, he => by
    rw [val_eq hV η hc, val_eq hV η' hc]
    by_cases hz : bZ β c = 0
    · rw [if_pos hz, if_pos hz]; exact he c hc (h0 c hc hz)
    · rw [if_neg hz, if_neg hz]
      rw [runV_cg (β := β) (E' := val β η') (T' := fun t => tab β η' t (cas β t)) (fun k hk q1 => ?_) (fun k hk q1 hl => ?_)]
      · obtain ⟨a, b⟩ := hρ.cell hV hc hk q1
        exact val_sl hV h0 h1 h2 hρ r η η' _ a (by omega) (fun v hv hr => he v hv (h1 c _ v hc a hv (nmB_1 hk q1 rfl) hr))
      · obtain ⟨a, b⟩ := hρ.tab hV hc hk q1
        obtain ⟨a2, b2'⟩ := hρ.out hV a hl
        obtain ⟨w1, w2, w3, w4, -⟩ := hV.2.1 _ a hl
        refine tal_cg (fun q _ => val_sl hV h0 h1 h2 hρ r _ _ _ a2 (by omega) (fun v hv hr => ?_))
        generalize q / wd β (bS β c k).2 = i
        generalize q % wd β (bS β c k).2 = j
        unfold supV
        by_cases e1 : v = b1 β (bS β c k).2
        · subst e1; rw [fu_s, fu_s]
        · rw [fu_n e1, fu_n e1]
          cases hb : b2 β (bS β c k).2 with
          | none => exact he v hv (h2 c _ v hc a hv (nmB_13 hk q1 rfl) hl hr (by unfold vr; rw [hb, decide_eq_false e1]; rfl))
          | some o =>
            by_cases e2 : v = o
            · subst e2; simp only [fu_s]
            · simp only [fu_n e2]
              exact he v hv (h2 c _ v hc a hv (nmB_13 hk q1 rfl) hl hr (by unfold vr; rw [hb, decide_eq_false e1, decide_eq_false (fun q => e2 (Option.some.inj q).symm)]; rfl))
end PV
