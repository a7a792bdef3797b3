/-! the tape, its bytes, its words -/
def isBl (c : Nat) : Prop := c = 32 ∨ c = 10
def isLt (c : Nat) : Prop := 97 ≤ c ∧ c ≤ 122
def isDg (c : Nat) : Prop := 48 ≤ c ∧ c ≤ 57
def isSg (c : Nat) : Prop := c = 40 ∨ c = 41 ∨ c = 44 ∨ c = 43 ∨ c = 45 ∨ c = 42 ∨ c = 47 ∨ c = 37 ∨ c = 60 ∨ c = 61
/-- n bytes T on the tape, on the class's side and on the reference's -/
def TC (T : Nat → Nat) (n : Nat) (I : Nat → Nat → Int32) : Prop := n ≤ 96 ∧ I 97 1 = nI n ∧ ∀ k, k < n → T k < 256 ∧ I 98 k = nI (T k)
def TR (T : Nat → Nat) (n : Nat) (I : Nat → Nat → Int32) : Prop := n ≤ 96 ∧ I 260 34 = nI n ∧ ∀ k, k < n → T k < 256 ∧ I 422 k = nI (T k)
/-- from p on P holds up to e and no further -/
def Run (P : Nat → Prop) (p e : Nat) : Prop := p ≤ e ∧ (∀ j, p ≤ j → j < e → P j) ∧ ¬ P e
theorem Run.eq {P : Nat → Prop} {p e e' : Nat} (h : Run P p e) (h' : Run P p e') : e = e' := by
  obtain ⟨a1, a2, a3⟩ := h
  obtain ⟨b1, b2, b3⟩ := h'
  rcases Nat.lt_trichotomy e e' with h | h | h
  · exact absurd (b2 e a1 h) a3
  · exact h
  · exact absurd (a2 e' b1 h) b3
/-- what stands from b to e is word q -/
def WM (T : Nat → Nat) (b e q : Nat) : Prop := e = b + j_len.getD q 0 ∧ ∀ k, k < j_len.getD q 0 → T (b + k) = wb q k
theorem WM.eq {T : Nat → Nat} {b e q q' : Nat} (hq : q < 8) (hq' : q' < 8) (h : WM T b e q) (h' : WM T b e q') : q = q' := by
  have key : ∀ q, q < 8 → ∀ q', q' < 8 → j_len.getD q 0 = j_len.getD q' 0 → (∀ k, k < 5 → k < j_len.getD q 0 → wb q k = wb q' k) → q = q' := by decide +kernel
  have hl : j_len.getD q 0 = j_len.getD q' 0 := by have := h.1; have := h'.1; omega
  exact key q hq q' hq' hl (fun k _ hk => by rw [← h.2 k hk, h'.2 k (by omega)])
section TB
variable {d : Nat} {I : Nat → Nat → Int32} {D : Nat → Nat → UInt64} {R : Nat → Nat → Option Nat} {Q : j_Po} {T : Nat → Nat} {n b e q p c : Nat}
theorem nI_ltk {a k : Nat} (ha : a < 256) (hk : k < 256) : nI a < nI k ↔ a < k := nI_ltI (by omega) (by omega)
theorem nI_eqk {a k : Nat} (ha : a < 256) (hk : k < 256) : nI a = nI k ↔ a = k := nI_eq (by omega) (by omega)
theorem c68n (hc : c < 256) (h1 : isBl c → Q (some (.int 1)) w1 (I, D, RR R)) (h0 : ¬ isBl c → Q (some (.int 0)) w1 (I, D, RR R)) : j_Call d 68 [.int (nI c)] w1 (I, D, RR R) 0 0 Q :=
  p68 (fun h => h1 (h.imp (nI_eqk (k := 32) hc (by decide)).mp (nI_eqk (k := 10) hc (by decide)).mp)) (fun h => h0 (fun h2 => h (h2.imp (nI_eqk (k := 32) hc (by decide)).mpr (nI_eqk (k := 10) hc (by decide)).mpr)))
theorem in_n {lo hi : Nat} (hc : c < 256) (hl : lo < 256) (hh : hi < 256) : (¬ nI c < nI lo ∧ ¬ nI hi < nI c) ↔ (lo ≤ c ∧ c ≤ hi) := by
  rw [nI_ltk hc hl, nI_ltk hh hc]; omega
theorem c69n (hc : c < 256) (h1 : isLt c → Q (some (.int 1)) w1 (I, D, RR R)) (h0 : ¬ isLt c → Q (some (.int 0)) w1 (I, D, RR R)) : j_Call d 69 [.int (nI c)] w1 (I, D, RR R) 0 0 Q :=
  p69 (fun h => h1 ((in_n (lo := 97) (hi := 122) hc (by decide) (by decide)).mp h)) (fun h => h0 (fun h2 => h ((in_n (lo := 97) (hi := 122) hc (by decide) (by decide)).mpr h2)))
theorem c83n (hc : c < 256) (h1 : isDg c → Q (some (.int 1)) w1 (I, D, RR R)) (h0 : ¬ isDg c → Q (some (.int 0)) w1 (I, D, RR R)) : j_Call d 83 [.int (nI c)] w1 (I, D, RR R) 0 0 Q :=
  p83 (fun h => h1 ((in_n (lo := 48) (hi := 57) hc (by decide) (by decide)).mp h)) (fun h => h0 (fun h2 => h ((in_n (lo := 48) (hi := 57) hc (by decide) (by decide)).mpr h2)))
theorem sg_n (hc : c < 256) : (nI c = 40 ∨ nI c = 41 ∨ nI c = 44 ∨ nI c = 43 ∨ nI c = 45 ∨ nI c = 42 ∨ nI c = 47 ∨ nI c = 37 ∨ nI c = 60 ∨ nI c = 61) ↔ isSg c := by
  have k : ∀ j, j < 256 → (nI c = nI j ↔ c = j) := fun j hj => nI_eqk hc hj
  unfold isSg
  rw [← k 40 (by decide), ← k 41 (by decide), ← k 44 (by decide), ← k 43 (by decide), ← k 45 (by decide), ← k 42 (by decide), ← k 47 (by decide), ← k 37 (by decide), ← k 60 (by decide), ← k 61 (by decide)]
  exact Iff.rfl
theorem c85n (hc : c < 256) (h1 : isSg c → Q (some (.int 1)) w1 (I, D, RR R)) (h0 : ¬ isSg c → Q (some (.int 0)) w1 (I, D, RR R)) : j_Call d 85 [.int (nI c)] w1 (I, D, RR R) 0 0 Q :=
  p85 (fun h => h1 ((sg_n hc).mp h)) (fun h => h0 (fun h2 => h ((sg_n hc).mpr h2)))
theorem c168n {lo hi : Nat} (hl : lo < 256) (hh : hi < 256) (hc : c < 256) (h1 : (lo ≤ c ∧ c ≤ hi) → Q (some (.int 1)) w1 (I, D, RR R)) (h0 : ¬ (lo ≤ c ∧ c ≤ hi) → Q (some (.int 0)) w1 (I, D, RR R)) : j_Call d 168 [.int (nI c), .int (nI lo), .int (nI hi)] w1 (I, D, RR R) 0 0 Q :=
  p168 (fun h => h1 ((in_n hc hl hh).mp h)) (fun h => h0 (fun h2 => h ((in_n hc hl hh).mpr h2)))
theorem nI_cln {p : Nat} (hp : p < 200) : (nI p).toNatClampNeg = p := by
  obtain ⟨h3, h4⟩ := nI_cl (x := nI p) rfl (by omega)
  exact ((nI_eq (by omega) (by omega)).mp h3).symm
theorem c213 (hT : TR T n I) (hp : p < 200) (h1 : p < n → Q (some (.int (nI (T p)))) w1 (I, D, RR R)) (h0 : ¬ p < n → Q (some (.int (-1))) w1 (I, D, RR R)) : j_Call d 213 [.ref 260, .int (nI p)] w1 (I, D, RR R) 0 0 Q := by
  obtain ⟨hn, h34, hb⟩ := hT
  have hle : (I 260 34) ≤ nI p ↔ n ≤ p := by rw [h34]; exact nI_leI (by omega) (by omega)
  refine s213 (Nat.zero_le _) (fun h => h0 (by have := hle.mp h; omega)) (fun h => ?_) (fun h => ?_)
  · have hlt : p < n := Classical.byContradiction fun q => h (hle.mpr (by omega))
    exact fun h => h.elim (nI_n0 (by omega)) (fun h => by rw [nI_cln hp] at h; omega)
  · have hlt : p < n := Classical.byContradiction fun q => h (hle.mpr (by omega))
    have e : (nI p).toNatClampNeg = p := by
      obtain ⟨h3, h4⟩ := nI_cl (x := nI p) rfl (by omega)
      exact ((nI_eq (by omega) (by omega)).mp h3).symm
    rw [e, (hb p hlt).2]
    exact h1 hlt
theorem c71 (hq9 : q < 9) (hT : TC T n I) (hb : I 97 3 = nI b) (he : I 97 4 = nI e) (hbe : b ≤ e) (hen : e ≤ n) (hd : 4 ≤ d) (h1 : WM T b e q → Q (some (.int 1)) w1 (I, D, RR R)) (h0 : ¬ WM T b e q → Q (some (.int 0)) w1 (I, D, RR R)) : j_Call d 71 [.ref 97, .ref (1000000 + 2 * q)] w1 (I, D, RR R) 0 0 Q := by
  obtain ⟨hn, -, hbt⟩ := hT
  have hlen := j_len_lt hq9
  have hcmp : (nI (j_len.getD q 0)) = ((nI e) - (nI b)) ↔ e - b = j_len.getD q 0 := by
    rw [pk_sub hbe, nI_eq (by omega) (by omega)]; omega
  have loop : e - b = j_len.getD q 0 → ∀ m k, k ≤ j_len.getD q 0 → j_len.getD q 0 - k = m → (∀ j, j < k → T (b + j) = wb q j) → j_W 71 d 0 0 0 0 20 [some (.ref 97), some (.ref (1000000 + 2 * q)), some (.int (nI k))] [] w1 (I, D, RR R) Q := fun hl m => by
    induction m with
    | zero =>
      intro k hk hm hz
      have : k = j_len.getD q 0 := by omega
      subst this
      exact s71h hq9 hb he hbe (by omega) hl (Nat.le_refl _) hd (fun _ => h1 ⟨by omega, hz⟩) (fun h => absurd (Nat.le_refl _) h) (fun h => absurd (Nat.le_refl _) h) (fun h => absurd (Nat.le_refl _) h)
    | succ m ih =>
      intro k hk hm hz
      have hb2 := hbt (b + k) (by omega)
      have hw := (wb_eq hq9 (i := k) (by omega)).2
      refine s71h hq9 hb he hbe (by omega) hl hk hd (fun h => absurd h (by omega)) (fun _ => by omega) (fun _ h => ih (k + 1) (by omega) (by omega) (fun j hj => ?_)) (fun _ h => h0 (fun hw2 => h ?_))
      · by_cases ee : j = k
        · subst ee
          rw [hb2.2] at h
          exact (nI_eq (by omega) (by omega)).mp h
        · exact hz j (by omega)
      · rw [hb2.2, hw2.2 k (by omega)]
  exact s71e hq9 hb he hbe (by omega) hd (fun h => loop (hcmp.mp h) _ 0 (Nat.zero_le _) rfl (fun j hj => absurd hj (Nat.not_lt_zero _))) (fun h => h0 (fun hw => h (hcmp.mpr (by have := hw.1; omega))))
theorem c215 (hq9 : q < 9) (hT : TR T n I) (hb : I 260 40 = nI b) (he : I 260 39 = nI e) (hbe : b ≤ e) (hen : e ≤ n) (hd : 4 ≤ d) (h1 : WM T b e q → Q (some (.int 1)) w1 (I, D, RR R)) (h0 : ¬ WM T b e q → Q (some (.int 0)) w1 (I, D, RR R)) : j_Call d 215 [.ref 260, .ref (1000000 + 2 * q)] w1 (I, D, RR R) 0 0 Q := by
  obtain ⟨hn, h34, hbt⟩ := hT
  have hlen := j_len_lt hq9
  have hcmp : (nI (j_len.getD q 0)) = ((nI e) - (nI b)) ↔ e - b = j_len.getD q 0 := by
    rw [pk_sub hbe, nI_eq (by omega) (by omega)]; omega
  have hpos : ∀ p, p < n → ¬ (I 260 34) ≤ nI p := fun p hp h => by rw [h34] at h; have := (nI_leI (by omega) (by omega)).mp h; omega
  have hcl : ∀ p, p < 200 → (nI p).toNatClampNeg = p := fun p hp => by
    obtain ⟨h3, h4⟩ := nI_cl (x := nI p) rfl (by omega)
    exact ((nI_eq (by omega) (by omega)).mp h3).symm
  have loop : e - b = j_len.getD q 0 → ∀ m k, k ≤ j_len.getD q 0 → j_len.getD q 0 - k = m → (∀ j, j < k → T (b + j) = wb q j) → j_W 215 d 0 0 0 0 20 [some (.ref 260), some (.ref (1000000 + 2 * q)), some (.int (nI k))] [] w1 (I, D, RR R) Q := fun hl m => by
    induction m with
    | zero =>
      intro k hk hm hz
      have : k = j_len.getD q 0 := by omega
      subst this
      have nx := fun (P : Prop) (h : ¬ j_len.getD q 0 ≤ j_len.getD q 0) => (absurd (Nat.le_refl _) h : P)
      exact s215h hq9 hb he hbe (by omega) h34 hn hl (Nat.le_refl _) hd (fun _ => h1 ⟨by omega, hz⟩) (fun h => nx _ h) (fun h => nx _ h) (fun h => nx _ h) (fun h => nx _ h) (fun h => nx _ h) (fun h => nx _ h)
    | succ m ih =>
      intro k hk hm hz
      have hb2 := hbt (b + k) (by omega)
      have hw := (wb_eq hq9 (i := k) (by omega)).2
      refine s215h hq9 hb he hbe (by omega) h34 hn hl hk hd (fun h => absurd h (by omega)) (fun _ => by omega) (fun _ _ => ?_) (fun _ h => absurd h (hpos _ (by omega))) (fun _ h => absurd h (hpos _ (by omega))) (fun _ _ h => ih (k + 1) (by omega) (by omega) (fun j hj => ?_)) (fun _ _ h => h0 (fun hw2 => h ?_))
      · exact fun h => h.elim (nI_n0 (by omega)) (fun h => by rw [nI_cln (by omega)] at h; omega)
      · by_cases ee : j = k
        · subst ee
          rw [hcl _ (by omega), hb2.2] at h
          exact ((nI_eq (by omega) (by omega)).mp h).symm
        · exact hz j (by omega)
      · rw [hcl _ (by omega), hb2.2, hw2.2 k (by omega)]
  exact s215e hq9 hb he hbe (by omega) h34 hn hd (fun h => loop (hcmp.mp h) _ 0 (Nat.zero_le _) rfl (fun j hj => absurd hj (Nat.not_lt_zero _))) (fun h => h0 (fun hw => h (hcmp.mpr (by have := hw.1; omega))))
end TB
