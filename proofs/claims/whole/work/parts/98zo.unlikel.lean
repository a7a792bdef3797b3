/-! asks: unlike numbers -/
def uB (k : Int32) (A : Nat → UInt64) (i : Nat) : Nat → Bool
  | 0 => true
  | j + 1 => uB k A i j && !deq (kp k (A j)) (kp k (A i))
def uN (k : Int32) (A : Nat → UInt64) : Nat → Nat
  | 0 => 0
  | i + 1 => uN k A i + (if uB k A i i = true then 1 else 0)
theorem uN_le {k : Int32} {A : Nat → UInt64} : ∀ i, uN k A i ≤ i
  | 0 => Nat.le_refl _
  | i + 1 => by
    have := uN_le (k := k) (A := A) i
    unfold uN; split <;> omega
section UL
variable {I : Nat → Nat → Int32} {D : Nat → Nat → UInt64} {R : Nat → Nat → Option Nat} {Q : j_Po}
theorem l128a {d g n : Nat} {w : Int32} (hg : isG g) (hn : n ≤ 8) (hs : ∀ i, i < n → Sm (D (g + 1) i)) (hd : 2 ≤ d) (hq : Q (some (.int (nI (uN w (D (g + 1)) n)))) w1 (I, D, RR R)) : ∀ (m i : Nat), m + i = n → j_W 128 d 0 0 0 0 5 [some (.ref (g + 1)), some (.int (nI n)), some (.int w), some (.int (nI (uN w (D (g + 1)) i))), some (.int (nI i)), none, none] [] w1 (I, D, RR R) Q := by
  intro m
  induction m with
  | zero =>
    intro i hi
    have hin : i = n := by omega
    subst hin
    have := uN_le (k := w) (A := D (g + 1)) i
    exact u128ha hg hn hn (by omega) hd (fun _ => hq) (fun h => absurd (Nat.le_refl _) h)
  | succ m ih =>
    intro i hi
    have hle := uN_le (k := w) (A := D (g + 1)) i
    refine u128ha hg hn (by omega) (by omega) hd (fun h => absurd h (by omega)) (fun _ => ?_)
    have inner : ∀ (p j : Nat), p + j = i → j_W 128 d 0 0 0 0 17 [some (.ref (g + 1)), some (.int (nI n)), some (.int w), some (.int (nI (uN w (D (g + 1)) i))), some (.int (nI i)), some (.int (bi (uB w (D (g + 1)) i j))), some (.int (nI j))] [] w1 (I, D, RR R) Q := by
      intro p
      induction p with
      | zero =>
        intro j hj
        have hji : j = i := by omega
        subst hji
        have ex : ∀ {P : Prop}, ¬ j ≤ j → P := fun h => absurd (Nat.le_refl _) h
        have nx := ih (j + 1) (by omega)
        unfold uN at nx
        refine u128ia hg (by omega) (Nat.le_refl _) (by omega) hd (fun _ e => ?_) (fun _ e => ?_) (fun h => ex h) (fun h => ex h) (fun h => ex h) (fun h => ex h) (fun h => ex h)
        · rw [if_neg (by rw [e]; simp)] at nx; exact nx
        · rw [if_pos e] at nx; exact nx
      | succ p ip =>
        intro j hj
        refine u128ia hg (by omega) (by omega) (by omega) hd (fun h => absurd h (by omega)) (fun h => absurd h (by omega)) (fun _ => hs j (by omega)) (fun _ => Nat.le_refl _) (fun _ => hs i (by omega)) (fun _ e => ?_) (fun _ e => ?_)
        · have e1 : uB w (D (g + 1)) i (j + 1) = uB w (D (g + 1)) i j := by show (uB w (D (g + 1)) i j && !deq (kp w (D (g + 1) j)) (kp w (D (g + 1) i))) = _; rw [e]; simp
          have := ip (j + 1) (by omega)
          rw [e1] at this; exact this
        · have e1 : uB w (D (g + 1)) i (j + 1) = false := by show (uB w (D (g + 1)) i j && !deq (kp w (D (g + 1) j)) (kp w (D (g + 1) i))) = _; rw [e]; simp
          have := ip (j + 1) (by omega)
          rw [e1] at this; exact this
    exact inner i 0 rfl
theorem l128b {d g n : Nat} {w : Int32} (hg : isG g) (hn : n ≤ 8) (hs : ∀ i, i < n → Sm (D (g + 2) i)) (hd : 2 ≤ d) (hq : Q (some (.int (nI (uN w (D (g + 2)) n)))) w1 (I, D, RR R)) : ∀ (m i : Nat), m + i = n → j_W 128 d 0 0 0 0 5 [some (.ref (g + 2)), some (.int (nI n)), some (.int w), some (.int (nI (uN w (D (g + 2)) i))), some (.int (nI i)), none, none] [] w1 (I, D, RR R) Q := by
  intro m
  induction m with
  | zero =>
    intro i hi
    have hin : i = n := by omega
    subst hin
    have := uN_le (k := w) (A := D (g + 2)) i
    exact u128hb hg hn hn (by omega) hd (fun _ => hq) (fun h => absurd (Nat.le_refl _) h)
  | succ m ih =>
    intro i hi
    have hle := uN_le (k := w) (A := D (g + 2)) i
    refine u128hb hg hn (by omega) (by omega) hd (fun h => absurd h (by omega)) (fun _ => ?_)
    have inner : ∀ (p j : Nat), p + j = i → j_W 128 d 0 0 0 0 17 [some (.ref (g + 2)), some (.int (nI n)), some (.int w), some (.int (nI (uN w (D (g + 2)) i))), some (.int (nI i)), some (.int (bi (uB w (D (g + 2)) i j))), some (.int (nI j))] [] w1 (I, D, RR R) Q := by
      intro p
      induction p with
      | zero =>
        intro j hj
        have hji : j = i := by omega
        subst hji
        have ex : ∀ {P : Prop}, ¬ j ≤ j → P := fun h => absurd (Nat.le_refl _) h
        have nx := ih (j + 1) (by omega)
        unfold uN at nx
        refine u128ib hg (by omega) (Nat.le_refl _) (by omega) hd (fun _ e => ?_) (fun _ e => ?_) (fun h => ex h) (fun h => ex h) (fun h => ex h) (fun h => ex h) (fun h => ex h)
        · rw [if_neg (by rw [e]; simp)] at nx; exact nx
        · rw [if_pos e] at nx; exact nx
      | succ p ip =>
        intro j hj
        refine u128ib hg (by omega) (by omega) (by omega) hd (fun h => absurd h (by omega)) (fun h => absurd h (by omega)) (fun _ => hs j (by omega)) (fun _ => Nat.le_refl _) (fun _ => hs i (by omega)) (fun _ e => ?_) (fun _ e => ?_)
        · have e1 : uB w (D (g + 2)) i (j + 1) = uB w (D (g + 2)) i j := by show (uB w (D (g + 2)) i j && !deq (kp w (D (g + 2) j)) (kp w (D (g + 2) i))) = _; rw [e]; simp
          have := ip (j + 1) (by omega)
          rw [e1] at this; exact this
        · have e1 : uB w (D (g + 2)) i (j + 1) = false := by show (uB w (D (g + 2)) i j && !deq (kp w (D (g + 2) j)) (kp w (D (g + 2) i))) = _; rw [e]; simp
          have := ip (j + 1) (by omega)
          rw [e1] at this; exact this
    exact inner i 0 rfl
theorem l263_0 {d t c n : Nat} (ht : t < 6) (hc : c < 24) (h319 : I 319 (2 * t + 0) = nI n) (hn : n ≤ 8) (hs : ∀ i, i < n → Sm (D (321 + ((2 * t) + 0)) i)) (hd : 2 ≤ d) (hq : Q (some (.int (nI (uN (I 261 c) (D (321 + ((2 * t) + 0))) n)))) w1 (I, D, RR R)) : ∀ (m i : Nat), m + i = n → j_W 263 d 0 0 0 0 33 [some (.ref 260), some (.int (nI t)), some (.int 0), some (.int (nI c)), some (.int (nI (uN (I 261 c) (D (321 + ((2 * t) + 0))) i))), some (.int (nI i)), none, none] [] w1 (I, D, RR R) Q := by
  intro m
  induction m with
  | zero =>
    intro i hi
    have hin : i = n := by omega
    subst hin
    have := uN_le (k := I 261 c) (A := D (321 + ((2 * t) + 0))) i
    exact u263h0 ht hc h319 hn hn (by omega) hd (fun _ => hq) (fun h => absurd (Nat.le_refl _) h)
  | succ m ih =>
    intro i hi
    have hle := uN_le (k := I 261 c) (A := D (321 + ((2 * t) + 0))) i
    refine u263h0 ht hc h319 hn (by omega) (by omega) hd (fun h => absurd h (by omega)) (fun _ => ?_)
    have inner : ∀ (p j : Nat), p + j = i → j_W 263 d 0 0 0 0 54 [some (.ref 260), some (.int (nI t)), some (.int 0), some (.int (nI c)), some (.int (nI (uN (I 261 c) (D (321 + ((2 * t) + 0))) i))), some (.int (nI i)), some (.int (bi (uB (I 261 c) (D (321 + ((2 * t) + 0))) i j))), some (.int (nI j))] [] w1 (I, D, RR R) Q := by
      intro p
      induction p with
      | zero =>
        intro j hj
        have hji : j = i := by omega
        subst hji
        have ex : ∀ {P : Prop}, ¬ j ≤ j → P := fun h => absurd (Nat.le_refl _) h
        have nx := ih (j + 1) (by omega)
        unfold uN at nx
        refine u263i0 ht hc (by omega) (Nat.le_refl _) (by omega) hd (fun _ e => ?_) (fun _ e => ?_) (fun h => ex h) (fun h => ex h) (fun h => ex h) (fun h => ex h) (fun h => ex h)
        · rw [if_neg (by rw [e]; simp)] at nx; exact nx
        · rw [if_pos e] at nx; exact nx
      | succ p ip =>
        intro j hj
        have o0 : ∀ e : Bool, (bi e &&& 0 : Int32) = bi false := by decide
        have o1 : ∀ e : Bool, (bi e &&& 1 : Int32) = bi e := by decide
        refine u263i0 ht hc (by omega) (by omega) (by omega) hd (fun h => absurd h (by omega)) (fun h => absurd h (by omega)) (fun _ => hs j (by omega)) (fun _ => Nat.le_refl _) (fun _ => hs i (by omega)) (fun _ e => ?_) (fun _ e => ?_)
        · have e1 : uB (I 261 c) (D (321 + ((2 * t) + 0))) i (j + 1) = false := by show (uB (I 261 c) (D (321 + ((2 * t) + 0))) i j && !deq (kp (I 261 c) (D (321 + ((2 * t) + 0)) j)) (kp (I 261 c) (D (321 + ((2 * t) + 0)) i))) = _; rw [e]; simp
          have := ip (j + 1) (by omega)
          rw [e1] at this; rw [o0]; exact this
        · have e1 : uB (I 261 c) (D (321 + ((2 * t) + 0))) i (j + 1) = uB (I 261 c) (D (321 + ((2 * t) + 0))) i j := by show (uB (I 261 c) (D (321 + ((2 * t) + 0))) i j && !deq (kp (I 261 c) (D (321 + ((2 * t) + 0)) j)) (kp (I 261 c) (D (321 + ((2 * t) + 0)) i))) = _; rw [e]; simp
          have := ip (j + 1) (by omega)
          rw [e1] at this; rw [o1]; exact this
    exact inner i 0 rfl
theorem l263_1 {d t c n : Nat} (ht : t < 6) (hc : c < 24) (h319 : I 319 (2 * t + 1) = nI n) (hn : n ≤ 8) (hs : ∀ i, i < n → Sm (D (321 + ((2 * t) + 1)) i)) (hd : 2 ≤ d) (hq : Q (some (.int (nI (uN (I 261 c) (D (321 + ((2 * t) + 1))) n)))) w1 (I, D, RR R)) : ∀ (m i : Nat), m + i = n → j_W 263 d 0 0 0 0 33 [some (.ref 260), some (.int (nI t)), some (.int 1), some (.int (nI c)), some (.int (nI (uN (I 261 c) (D (321 + ((2 * t) + 1))) i))), some (.int (nI i)), none, none] [] w1 (I, D, RR R) Q := by
  intro m
  induction m with
  | zero =>
    intro i hi
    have hin : i = n := by omega
    subst hin
    have := uN_le (k := I 261 c) (A := D (321 + ((2 * t) + 1))) i
    exact u263h1 ht hc h319 hn hn (by omega) hd (fun _ => hq) (fun h => absurd (Nat.le_refl _) h)
  | succ m ih =>
    intro i hi
    have hle := uN_le (k := I 261 c) (A := D (321 + ((2 * t) + 1))) i
    refine u263h1 ht hc h319 hn (by omega) (by omega) hd (fun h => absurd h (by omega)) (fun _ => ?_)
    have inner : ∀ (p j : Nat), p + j = i → j_W 263 d 0 0 0 0 54 [some (.ref 260), some (.int (nI t)), some (.int 1), some (.int (nI c)), some (.int (nI (uN (I 261 c) (D (321 + ((2 * t) + 1))) i))), some (.int (nI i)), some (.int (bi (uB (I 261 c) (D (321 + ((2 * t) + 1))) i j))), some (.int (nI j))] [] w1 (I, D, RR R) Q := by
      intro p
      induction p with
      | zero =>
        intro j hj
        have hji : j = i := by omega
        subst hji
        have ex : ∀ {P : Prop}, ¬ j ≤ j → P := fun h => absurd (Nat.le_refl _) h
        have nx := ih (j + 1) (by omega)
        unfold uN at nx
        refine u263i1 ht hc (by omega) (Nat.le_refl _) (by omega) hd (fun _ e => ?_) (fun _ e => ?_) (fun h => ex h) (fun h => ex h) (fun h => ex h) (fun h => ex h) (fun h => ex h)
        · rw [if_neg (by rw [e]; simp)] at nx; exact nx
        · rw [if_pos e] at nx; exact nx
      | succ p ip =>
        intro j hj
        have o0 : ∀ e : Bool, (bi e &&& 0 : Int32) = bi false := by decide
        have o1 : ∀ e : Bool, (bi e &&& 1 : Int32) = bi e := by decide
        refine u263i1 ht hc (by omega) (by omega) (by omega) hd (fun h => absurd h (by omega)) (fun h => absurd h (by omega)) (fun _ => hs j (by omega)) (fun _ => Nat.le_refl _) (fun _ => hs i (by omega)) (fun _ e => ?_) (fun _ e => ?_)
        · have e1 : uB (I 261 c) (D (321 + ((2 * t) + 1))) i (j + 1) = false := by show (uB (I 261 c) (D (321 + ((2 * t) + 1))) i j && !deq (kp (I 261 c) (D (321 + ((2 * t) + 1)) j)) (kp (I 261 c) (D (321 + ((2 * t) + 1)) i))) = _; rw [e]; simp
          have := ip (j + 1) (by omega)
          rw [e1] at this; rw [o0]; exact this
        · have e1 : uB (I 261 c) (D (321 + ((2 * t) + 1))) i (j + 1) = uB (I 261 c) (D (321 + ((2 * t) + 1))) i j := by show (uB (I 261 c) (D (321 + ((2 * t) + 1))) i j && !deq (kp (I 261 c) (D (321 + ((2 * t) + 1)) j)) (kp (I 261 c) (D (321 + ((2 * t) + 1)) i))) = _; rw [e]; simp
          have := ip (j + 1) (by omega)
          rw [e1] at this; rw [o1]; exact this
    exact inner i 0 rfl
end UL
