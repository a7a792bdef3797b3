/-! what both sides keep of the rows -/
def okD (x : UInt64) : Prop := Sm x ∧ x ≠ 0x8000000000000000
def rowR (σ : j_I3) (r : Nat) : Prop := ∃ n, n ≤ 64 ∧ ¬ σ.1 503 r < -1 ∧ σ.1 503 r ≤ 3 ∧ σ.1 (248 + 3 * r) 0 = σ.1 503 r ∧ σ.1 (248 + 3 * r) 1 = nI n ∧ σ.1 504 r = nI n ∧
  ∀ k, k < n → σ.1 ((248 + 3 * r) + 2) k = σ.1 (511 + r) k ∧ (σ.1 (511 + r) k = 0 ∨ σ.1 (511 + r) k = 1) ∧ (σ.1 (511 + r) k = 0 → σ.2.1 ((248 + 3 * r) + 1) k = σ.2.1 (506 + r) k ∧ okD (σ.2.1 (506 + r) k))
def rowsR (σ : j_I3) : Prop := ∀ r, r < 4 → rowR σ r
/-- nothing but what P names is other -/
def same (P : Nat → Prop) (σ σ' : j_I3) : Prop := ∀ o, ¬ P o → σ'.1 o = σ.1 o ∧ σ'.2.1 o = σ.2.1 o ∧ σ'.2.2 o = σ.2.2 o
theorem same.rf {P : Nat → Prop} {σ : j_I3} : same P σ σ := fun _ _ => ⟨rfl, rfl, rfl⟩
theorem same.tr {P : Nat → Prop} {σ σ1 σ2 : j_I3} (h : same P σ σ1) (h2 : same P σ1 σ2) : same P σ σ2 := fun o ho => ⟨(h2 o ho).1.trans (h o ho).1, (h2 o ho).2.1.trans (h o ho).2.1, (h2 o ho).2.2.trans (h o ho).2.2⟩
def rowsP (o : Nat) : Prop := (248 ≤ o ∧ o < 260) ∨ (503 ≤ o ∧ o < 517)
/-- one row anew, the others as they were -/
theorem rowsR.one {σ σ' : j_I3} {r : Nat} (h : rowsR σ) (hr : rowR σ' r) (h503 : ∀ k, k ≠ r → σ'.1 503 k = σ.1 503 k ∧ σ'.1 504 k = σ.1 504 k) (ho : ∀ o, rowsP o → o < 515 → o ≠ 503 → o ≠ 504 → o ≠ 248 + 3 * r → o ≠ 248 + 3 * r + 1 → o ≠ 248 + 3 * r + 2 → o ≠ 506 + r → o ≠ 511 + r → σ'.1 o = σ.1 o ∧ σ'.2.1 o = σ.2.1 o) (hr4 : r < 4) : rowsR σ' := by
  intro q hq
  by_cases e : q = r
  · subst e; exact hr
  · obtain ⟨n, h1, h2, h3, h4, h5, h6, h7⟩ := h q hq
    obtain ⟨a1, a2⟩ := h503 q e
    obtain ⟨b1, -⟩ := ho (248 + 3 * q) (Or.inl (by omega)) (by omega) (by omega) (by omega) (by omega) (by omega) (by omega) (by omega) (by omega)
    obtain ⟨-, c2⟩ := ho (248 + 3 * q + 1) (Or.inl (by omega)) (by omega) (by omega) (by omega) (by omega) (by omega) (by omega) (by omega) (by omega)
    obtain ⟨d1, -⟩ := ho (248 + 3 * q + 2) (Or.inl (by omega)) (by omega) (by omega) (by omega) (by omega) (by omega) (by omega) (by omega) (by omega)
    obtain ⟨-, f2⟩ := ho (506 + q) (Or.inr (by omega)) (by omega) (by omega) (by omega) (by omega) (by omega) (by omega) (by omega) (by omega)
    obtain ⟨g1, -⟩ := ho (511 + q) (Or.inr (by omega)) (by omega) (by omega) (by omega) (by omega) (by omega) (by omega) (by omega) (by omega)
    exact ⟨n, h1, by rw [a1]; exact h2, by rw [a1]; exact h3, by rw [b1, a1]; exact h4, by rw [b1]; exact h5, by rw [a2]; exact h6, fun k hk => by rw [d1, g1, c2, f2]; exact h7 k hk⟩
/-- the pair of calls: both answer v; what holds behind them -/
def Pair (i j : Nat) (av : List Value) (σ : j_I3) (T : j_I3 → Prop) : Prop := j_Call lD i (.ref 0 :: av) w1 (e3 σ) 0 0 (fun r w τ => ∃ (v : Int32) (σ1 : j_I3), r = some (.int v) ∧ w = w1 ∧ τ = e3 σ1 ∧ j_Call lD j (.ref 260 :: av) w1 (e3 σ1) 0 0 (fun r w τ => ∃ σ2 : j_I3, r = some (.int v) ∧ w = w1 ∧ τ = e3 σ2 ∧ T σ2))
theorem okD_0 : okD FP.dconst0 := ⟨sm_0, by decide⟩
section R284
variable {d : Nat} {I : Nat → Nat → Int32} {D : Nat → Nat → UInt64} {R : Nat → Nat → Option Nat} {Q : j_Po}
theorem l284 {r : Nat} (hr : r < 4) (hd : 2 ≤ d) (hq : Q (some (.int 1)) w1 (j_fl I (511 + r) 64 0, j_fl D (506 + r) 64 FP.dconst0, RR R)) : ∀ (n k : Nat), n + k = 64 → j_W 284 d 0 0 0 0 65 [some (.ref 260), some (.int (nI r)), none, none, some (.int (nI k))] [] w1 (j_fl I (511 + r) k 0, j_fl D (506 + r) k FP.dconst0, RR R) Q := by
  intro n
  induction n with
  | zero => intro k hk; exact s284h hr (by omega) hd (fun _ => by rw [show k = 64 by omega]; exact hq) (fun h => absurd (show 64 ≤ k by omega) h)
  | succ n ih => intro k hk; exact s284h hr (by omega) hd (fun h => absurd h (by omega)) (fun _ => by rw [j_fl_S, j_fl_S]; exact ih (k + 1) (by omega))
theorem m284 {r : Nat} {b c : Int32} (hr : r < 4) (hd : 2 ≤ d) (hq : Q (some (.int 1)) w1 (j_fl (j_u (j_u I 503 r b) 504 r c) (511 + r) 64 0, j_fl D (506 + r) 64 FP.dconst0, RR R)) : j_W 284 d 0 0 0 0 65 [some (.ref 260), some (.int (nI r)), some (.int b), none, some (.int 0)] [] w1 ((j_u (j_u I 503 r b) 504 r c), D, RR R) Q := by
  refine r_sub (L' := [some (.ref 260), some (.int (nI r)), none, none, some (.int 0)]) ⟨rfl, rfl, rfl, trivial⟩ ?_
  have := l284 (I := j_u (j_u I 503 r b) 504 r c) (D := D) (R := R) hr hd hq 64 0 rfl
  rw [j_fl_0, j_fl_0] at this
  exact this
end R284
theorem row_new {σ : j_I3} {r n : Nat} {b : Int32} (h : rowsR σ) (hr : r < 4) (hn : n ≤ 64) (hb : ¬ b < -1) (hb3 : b ≤ 3) :
    rowsR (j_fl (j_u (j_u (j_fl (j_u (j_u σ.1 (248 + 3 * r) 0 b) (248 + 3 * r) 1 (nI n)) (248 + 3 * r + 2) 64 0) 503 r b) 504 r (nI n)) (511 + r) 64 0, j_fl (j_fl σ.2.1 (248 + 3 * r + 1) 64 FP.dconst0) (506 + r) 64 FP.dconst0, σ.2.2) := by
  refine rowsR.one h (r := r) ⟨n, hn, ?_⟩ (fun k hk => ?_) (fun o ho _ h1 h2 h3 h4 h5 h6 h7 => ?_) hr
  · simp (disch := omega) only [j_u_o, j_fl_o, j_u_same, j_u_k, j_fl_in]
    exact ⟨hb, hb3, trivial, trivial, trivial, fun k hk => by
      simp (disch := omega) only [j_u_o, j_fl_o, j_u_same, j_u_k, j_fl_in]
      exact ⟨trivial, Or.inl trivial, fun _ => ⟨trivial, okD_0⟩⟩⟩
  · simp (disch := omega) only [j_u_o, j_fl_o, j_u_same, j_u_k, j_fl_in]
    exact ⟨trivial, trivial⟩
  · constructor
    · funext k
      simp (disch := omega) only [j_u_o, j_fl_o, j_u_same, j_u_k, j_fl_in]
    · funext k
      simp (disch := omega) only [j_u_o, j_fl_o, j_u_same, j_u_k, j_fl_in]
