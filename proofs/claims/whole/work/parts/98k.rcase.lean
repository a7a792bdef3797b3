/-! the reference tells: what it stands on, what it may change, a case -/
/-- the reference's board, its inputs apart -/
def RSt (β : Bd) (I : Nat → Nat → Int32) (D : Nat → Nat → UInt64) : Prop := (∀ c, c < 24 → I 261 c = nI (bK β c) ∧ I 264 c = nI (bZ β c) ∧ ∀ j, j < bZ β c → MR (bS β c j) (I (266 + c) j) (D (291 + c))) ∧ ∀ t, t < 6 → I 315 t = bi (bL β t) ∧ (bL β t = true → I 316 t = nI (bO β t) ∧ I 317 t = nI (b1 β t) ∧ I 318 t = oI (b2 β t) ∧ I 319 (2 * t) = nI (bm β t) ∧ I 319 (2 * t + 1) = nI (bn β t) ∧ (∀ k, k < bm β t → D (321 + 2 * t) k = bA β (2 * t) k) ∧ (∀ k, k < bn β t → D (321 + 2 * t + 1) k = bA β (2 * t + 1) k))
/-- its inputs -/
def RIn (β : Bd) (I : Nat → Nat → Int32) (D : Nat → Nat → UInt64) (η : VEnv) : Prop := ∀ c, c < 24 → (I 262 c = 0 ∨ I 262 c = 1) ∧ Sm (D 263 c) ∧ (bZ β c = 0 → (I 262 c = 0 → (η c).1 = 32 + c) ∧ (I 262 c = 1 → η c = (0, kp (nI (bK β c)) (D 263 c))))
def SR (e : Int32) (x : UInt64) (f : Nat) (T : Tl) : Prop := e = nI (askE f T) ∧ (askE f T = 0 → x = askN f T ∧ Sm x)
/-- what it told and summed up at a level -/
def QM (β : Bd) (δ : Nat) (η : VEnv) (I : Nat → Nat → Int32) (D : Nat → Nat → UInt64) : Prop := (∀ c, c < 24 → I (364 + δ) c ≠ 0 → VQ (I (380 + δ) c) (I (388 + δ) c) (D (372 + δ) c) (val β η c) ∧ Sm (D (372 + δ) c)) ∧ ∀ t, t < 6 → bL β t = true → I (396 + δ) t ≠ 0 → ∀ f, f < 5 → SR (I (412 + δ) (5 * t + f)) (D (404 + δ) (5 * t + f)) f (tab β η t (cas β t))
def qI (δ q : Nat) : Prop := q = 260 ∨ q = 420 ∨ q = 421 ∨ (364 + δ ≤ q ∧ q ≤ 370) ∨ (380 + δ ≤ q ∧ q ≤ 386) ∨ (388 + δ ≤ q ∧ q ≤ 394) ∨ (396 + δ ≤ q ∧ q ≤ 402) ∨ (412 + δ ≤ q ∧ q ≤ 418)
def qD (δ q : Nat) : Prop := q = 260 ∨ q = 419 ∨ (372 + δ ≤ q ∧ q ≤ 378) ∨ (404 + δ ≤ q ∧ q ≤ 410)
def FQT (δ b : Nat) (I : Nat → Nat → Int32) (D : Nat → Nat → UInt64) (I' : Nat → Nat → Int32) (D' : Nat → Nat → UInt64) : Prop :=
  (∀ q, ¬ qI δ q → I' q = I q) ∧ (∀ i, i ≠ 26 → i ≠ 31 → i ≠ 32 → I' 260 i = I 260 i) ∧ (∀ i, i < b → I' 420 i = I 420 i ∧ I' 421 i = I 421 i) ∧ (∀ q, ¬ qD δ q → D' q = D q) ∧ (∀ i, i ≠ 30 → D' 260 i = D 260 i) ∧ ∀ i, i < b → D' 419 i = D 419 i
section FQ9
variable {β : Bd} {δ b : Nat} {η : VEnv} {I I1 I2 : Nat → Nat → Int32} {D D1 D2 : Nat → Nat → UInt64}
theorem FQT.refl : FQT δ b I D I D := ⟨fun _ _ => rfl, fun _ _ _ _ => rfl, fun _ _ => ⟨rfl, rfl⟩, fun _ _ => rfl, fun _ _ => rfl, fun _ _ => rfl⟩
theorem FQT.tr (h : FQT δ b I D I1 D1) (g : FQT δ b I1 D1 I2 D2) : FQT δ b I D I2 D2 := ⟨fun q a => (g.1 q a).trans (h.1 q a), fun i a1 a2 a3 => (g.2.1 i a1 a2 a3).trans (h.2.1 i a1 a2 a3), fun i a => ⟨(g.2.2.1 i a).1.trans (h.2.2.1 i a).1, (g.2.2.1 i a).2.trans (h.2.2.1 i a).2⟩, fun q a => (g.2.2.2.1 q a).trans (h.2.2.2.1 q a), fun i a => (g.2.2.2.2.1 i a).trans (h.2.2.2.2.1 i a), fun i a => (g.2.2.2.2.2 i a).trans (h.2.2.2.2.2 i a)⟩
theorem FQT.mono {δ' b' : Nat} (h : FQT δ' b' I D I1 D1) (hδ : δ ≤ δ') (hb : b ≤ b') : FQT δ b I D I1 D1 := ⟨fun q a => h.1 q (fun e => a (by unfold qI at *; omega)), h.2.1, fun i a => h.2.2.1 i (by omega), fun q a => h.2.2.2.1 q (fun e => a (by unfold qD at *; omega)), h.2.2.2.2.1, fun i a => h.2.2.2.2.2 i (by omega)⟩
theorem FQ.t (h : FQ b I D I1 D1) : FQT δ b I D I1 D1 := ⟨fun q a => h.1 q (fun e => a (by unfold qI; omega)) (fun e => a (by unfold qI; omega)) (fun e => a (by unfold qI; omega)), fun i a _ _ => h.2.1 i a, h.2.2.1, fun q a => h.2.2.2.1 q (fun e => a (by unfold qD; omega)), fun i _ => by rw [h.2.2.2.1 260 (by decide)], h.2.2.2.2⟩
theorem RSt.cg (h : RSt β I D) (hI : ∀ q, 261 ≤ q → q < 333 → q ≠ 262 → I1 q = I q) (hD : ∀ q, 261 ≤ q → q < 333 → q ≠ 263 → D1 q = D q) : RSt β I1 D1 := by
  refine ⟨fun c hc => ?_, fun t ht => ?_⟩
  · rw [hI 261 (by decide) (by decide) (by decide), hI 264 (by decide) (by decide) (by decide), hI (266 + c) (by omega) (by omega) (by omega), hD (291 + c) (by omega) (by omega) (by omega)]; exact h.1 c hc
  · rw [hI 315 (by decide) (by decide) (by decide), hI 316 (by decide) (by decide) (by decide), hI 317 (by decide) (by decide) (by decide), hI 318 (by decide) (by decide) (by decide), hI 319 (by decide) (by decide) (by decide), hD (321 + 2 * t) (by omega) (by omega) (by omega), hD (321 + 2 * t + 1) (by omega) (by omega) (by omega)]; exact h.2 t ht
theorem FQT.st (h : FQT δ b I D I1 D1) (hS : RSt β I D) : RSt β I1 D1 := hS.cg (fun q a1 a2 _ => h.1 q (by unfold qI; omega)) (fun q a1 a2 _ => h.2.2.2.1 q (by unfold qD; omega))
theorem RIn.cg (h : RIn β I D η) (hI : I1 262 = I 262) (hD : D1 263 = D 263) : RIn β I1 D1 η := fun c hc => by rw [hI, hD]; exact h c hc
theorem FQT.inp (h : FQT δ b I D I1 D1) (hS : RIn β I D η) : RIn β I1 D1 η := hS.cg (h.1 262 (by unfold qI; omega)) (h.2.2.2.1 263 (by unfold qD; omega))
theorem QM.cg (h : QM β δ η I D) (h1 : I1 (364 + δ) = I (364 + δ)) (h2 : I1 (380 + δ) = I (380 + δ)) (h3 : I1 (388 + δ) = I (388 + δ)) (h4 : I1 (396 + δ) = I (396 + δ)) (h5 : I1 (412 + δ) = I (412 + δ)) (h6 : D1 (372 + δ) = D (372 + δ)) (h7 : D1 (404 + δ) = D (404 + δ)) : QM β δ η I1 D1 := by
  unfold QM
  rw [h1, h2, h3, h4, h5, h6, h7]; exact h
theorem FQT.mq {δ' : Nat} (h : FQT δ' b I D I1 D1) (hδ : δ < δ') (h7 : δ' ≤ 7) (hM : QM β δ η I D) : QM β δ η I1 D1 := hM.cg (h.1 _ (by unfold qI; omega)) (h.1 _ (by unfold qI; omega)) (h.1 _ (by unfold qI; omega)) (h.1 _ (by unfold qI; omega)) (h.1 _ (by unfold qI; omega)) (h.2.2.2.1 _ (by unfold qD; omega)) (h.2.2.2.1 _ (by unfold qD; omega))
theorem FQ.mq (h : FQ b I D I1 D1) (hδ : δ < 7) (hM : QM β δ η I D) : QM β δ η I1 D1 := (FQ.t (δ := 7) h).mq hδ (Nat.le_refl _) hM
theorem FQT.sq {h : Nat} {s : Nat → Vl} (g : FQT δ (b + h) I D I1 D1) (ht : I1 260 26 = nI (b + h)) (hS : SQ I D b h s) : SQ I1 D1 b h s := ⟨ht, fun i hi => by rw [(g.2.2.1 (b + i) (by omega)).1, (g.2.2.1 (b + i) (by omega)).2, g.2.2.2.2.2 (b + i) (by omega)]; exact hS.2 i hi⟩
theorem VQ.bl {e b : Int32} {x : UInt64} {v : Vl} (h : VQ e b x v) : VQ e (if e = 0 then -1 else b) x v := by
  by_cases e0 : e = 0
  · rw [if_pos e0]
    have := h.2.1
    rw [if_pos (h.z.mp e0)] at this
    rw [← this]; exact h
  · rw [if_neg e0]; exact h
theorem VQ.cg {e b e' b' : Int32} {x x' : UInt64} {v : Vl} (h : VQ e b x v) (h1 : e' = e) (h2 : b' = b) (h3 : x' = x) : VQ e' b' x' v := by rw [h1, h2, h3]; exact h
/-- tell, below a rank -/
def TQ (β : Bd) (ρ : Nat → Nat) (R : Nat → Nat → Option Nat) (r : Nat) : Prop := ∀ (d δ b c : Nat) (η : VEnv) (I : Nat → Nat → Int32) (D : Nat → Nat → UInt64) (Q : j_Po), c < 24 → ρ c < r → δ + cnt ρ (ρ c) ≤ 6 → b + 40 * (ρ c + 1) ≤ 4800 → 2 * ρ c + 4 ≤ d → RSt β I D → RIn β I D η → QM β δ η I D → I 260 18 = nI δ → I 260 26 = nI b →
  (∀ I' D', FQT δ b I D I' D' → I' 260 26 = nI b → QM β δ η I' D' → I' (364 + δ) c ≠ 0 → Q none w1 (I', D', RR R)) → j_Call d 191 [.ref 260, .int (nI c)] w1 (I, D, RR R) 0 0 Q
/-- sumUp -/
def SUQ (β : Bd) (ρ : Nat → Nat) (R : Nat → Nat → Option Nat) (r : Nat) : Prop := ∀ (d δ b t : Nat) (η : VEnv) (I : Nat → Nat → Int32) (D : Nat → Nat → UInt64) (Q : j_Po), t < 6 → bL β t = true → ρ (24 + t) < r → δ + 1 + cnt ρ (ρ (24 + t)) ≤ 6 → b + 40 * (ρ (24 + t) + 1) ≤ 4800 → 2 * ρ (24 + t) + 4 ≤ d → RSt β I D → RIn β I D η → QM β δ η I D → I 260 18 = nI δ → I 260 26 = nI b →
  (∀ I' D', FQT δ b I D I' D' → I' 260 26 = nI b → QM β δ η I' D' → I' (396 + δ) t ≠ 0 → Q none w1 (I', D', RR R)) → j_Call d 194 [.ref 260, .int (nI t)] w1 (I, D, RR R) 0 0 Q
end FQ9
section TC9
variable {β : Bd} {ρ : Nat → Nat} {R : Nat → Nat → Option Nat} {r : Nat} {I : Nat → Nat → Int32} {D : Nat → Nat → UInt64} {Q : j_Po}
theorem c195c (hT : TQ β ρ R r) {d δ b t i j a b' o : Nat} {x y : UInt64} {g k : Int32} {η : VEnv} (ht : t < 6) (ha : a < 24) (hb' : b' < 24) (ho : o < 24) (e316 : I 316 t = nI o) (hro : ρ o < r) (hcnt : δ + 1 + cnt ρ (ρ o) ≤ 6) (hb : b + 40 * (ρ o + 1) ≤ 4800) (hd : 2 * ρ o + 5 ≤ d) (hg : g = 0 ∨ g = 1) (hk : k = 0 ∨ k = 1) (hS : RSt β I D) (hI : RIn β I D η) (h18 : I 260 18 = nI δ) (h26 : I 260 26 = nI b)
    (hq : ∀ I' D', FQT (δ + 1) b I D I' D' → I' 260 26 = nI b → VQ (I' 260 31) (I' 260 32) (D' 260 30) (val β η o) → Q none w1 (j_u (j_u I' 262 b' k) 262 a g, j_u (j_u D' 263 b' y) 263 a x, RR R)) : j_W 195 d 0 0 0 0 129 [some (.ref 260), some (.int (nI t)), some (.int (nI i)), some (.int (nI j)), some (.int (nI a)), some (.int (nI b')), some (.double x), none, some (.double y), none, some (.int g), some (.int k)] [] w1 (I, D, RR R) Q := by
  refine u195e h18 (Nat.zero_le _) ?_
  refine u195f (AP := fun J E => E = D ∧ (∀ q, q ≠ 364 + (δ + 1) → q ≠ 396 + (δ + 1) → J q = j_u I 260 18 (nI (δ + 1)) q) ∧ (∀ c, c < 24 → J (364 + (δ + 1)) c = 0) ∧ (∀ t, t < 6 → J (396 + (δ + 1)) t = 0)) (fun Q2 hq2 => c190 (l := δ + 1) (by rw [j_u_same]) (by omega) (fun J a1 a2 a3 => hq2 J D ⟨rfl, a1, a2, a3⟩)) (by omega) (fun J E hA => ?_)
  obtain ⟨rfl, j1, j2, j3⟩ := hA
  have j1' : ∀ q, q ≠ 364 + (δ + 1) → q ≠ 396 + (δ + 1) → q ≠ 260 → J q = I q := fun q a1 a2 a3 => by rw [j1 q a1 a2]; funext i; rw [j_u_o _ _ _ a3]
  have j18 : J 260 18 = nI (δ + 1) := by rw [j1 260 (by omega) (by omega), j_u_same]
  have j260 : ∀ i, i ≠ 18 → J 260 i = I 260 i := fun i hi => by rw [j1 260 (by omega) (by omega), j_u_k _ _ hi]
  have jS : RSt β J E := hS.cg (fun q a1 a2 _ => j1' q (by omega) (by omega) (by omega)) (fun _ _ _ _ => rfl)
  have jI : RIn β J E η := hI.cg (j1' 262 (by omega) (by omega) (by omega)) rfl
  refine u195g (AP := fun I2 D2 => FQT (δ + 1) b J E I2 D2 ∧ I2 260 26 = nI b ∧ QM β (δ + 1) η I2 D2 ∧ I2 (364 + (δ + 1)) o ≠ 0) ht (by rw [j1' 316 (by omega) (by omega) (by omega)]; exact e316) (fun Q2 hq2 => hT (d - 1) (δ + 1) b o η J E Q2 ho hro hcnt hb (by omega) jS jI ⟨fun c hc h => absurd (j2 c hc) h, fun t ht _ h => absurd (j3 t ht) h⟩ j18 (by rw [j260 26 (by decide)]; exact h26) (fun I2 D2 a1 a2 a3 a4 => hq2 I2 D2 ⟨a1, a2, a3, a4⟩)) (by omega) (fun I2 D2 hA => ?_)
  obtain ⟨g1, g2, g3, g4⟩ := hA
  have e18 : I2 260 18 = nI (δ + 1) := by rw [g1.2.1 18 (by decide) (by decide) (by decide)]; exact j18
  refine u195h (l := δ + 1) ht (by rw [g1.1 316 (by unfold qI; omega), j1' 316 (by omega) (by omega) (by omega)]; exact e316) ho e18 (by omega) (by omega) ?_
  refine u195i (l := δ + 1) (by rw [j_u_k _ _ (by decide), j_u_k _ _ (by decide)]; exact e18) (by omega) (by omega) (by omega) ?_
  refine u195j ha hb' (by omega) hk hg ?_
  refine hq _ _ ⟨fun q a1 => ?_, fun i a1 a2 a3 => ?_, fun i a1 => ?_, fun q a1 => ?_, fun i a1 => ?_, fun i a1 => ?_⟩ ?_ ?_
  · have : q ≠ 260 := fun e => a1 (Or.inl e)
    have e1 : j_u (j_u (j_u I2 260 31 (I2 (380 + (δ + 1)) o)) 260 32 (j_u I2 260 31 (I2 (380 + (δ + 1)) o) (388 + (δ + 1)) o)) 260 18 (nI (δ + 1 - 1)) q = I2 q := by funext i; rw [j_u_o _ _ _ this, j_u_o _ _ _ this, j_u_o _ _ _ this]
    rw [e1, g1.1 q a1, j1' q (fun e => a1 (by unfold qI; omega)) (fun e => a1 (by unfold qI; omega)) this]
  · by_cases e : i = 18
    · subst e; rw [j_u_same, h18]; rfl
    · rw [j_u_k _ _ e, j_u_k _ _ a3, j_u_k _ _ a2, g1.2.1 i a1 a2 a3, j260 i e]
  · have := g1.2.2.1 i a1
    exact ⟨by rw [j_u_o _ _ _ (by decide), j_u_o _ _ _ (by decide), j_u_o _ _ _ (by decide), this.1, j1' 420 (by omega) (by omega) (by omega)], by rw [j_u_o _ _ _ (by decide), j_u_o _ _ _ (by decide), j_u_o _ _ _ (by decide), this.2, j1' 421 (by omega) (by omega) (by omega)]⟩
  · have : q ≠ 260 := fun e => a1 (Or.inl e)
    rw [← g1.2.2.2.1 q a1]; funext i; rw [j_u_o _ _ _ this]
  · rw [j_u_k _ _ a1, g1.2.2.2.2.1 i a1]
  · rw [j_u_o _ _ _ (by decide), g1.2.2.2.2.2 i a1]
  · rw [j_u_k _ _ (by decide), j_u_k _ _ (by decide), j_u_k _ _ (by decide)]; exact g2
  · refine (g3.1 o ho g4).1.cg ?_ ?_ ?_
    · rw [j_u_k _ _ (by decide), j_u_k _ _ (by decide), j_u_same]
    · rw [j_u_k _ _ (by decide), j_u_same, j_u_o _ _ _ (by omega)]
    · rw [j_u_same]
theorem fqt_res {δ b : Nat} {I I2 I' J' : Nat → Nat → Int32} {D D2 D' E' : Nat → Nat → UInt64} (h : FQT δ b I2 D2 I' D') (h1 : ∀ q, q ≠ 262 → I2 q = I q) (h2 : ∀ q, q ≠ 263 → D2 q = D q) (h3 : ∀ q, q ≠ 262 → J' q = I' q) (h4 : ∀ q, q ≠ 263 → E' q = D' q) (h5 : J' 262 = I 262) (h6 : E' 263 = D 263) : FQT δ b I D J' E' := by
  refine ⟨fun q a => ?_, fun i a1 a2 a3 => ?_, fun i a => ⟨?_, ?_⟩, fun q a => ?_, fun i a => ?_, fun i a => ?_⟩
  · by_cases e : q = 262
    · rw [e]; exact h5
    · rw [h3 q e, h.1 q a, h1 q e]
  · rw [h3 260 (by decide), h.2.1 i a1 a2 a3, h1 260 (by decide)]
  · rw [h3 420 (by decide), (h.2.2.1 i a).1, h1 420 (by decide)]
  · rw [h3 421 (by decide), (h.2.2.1 i a).2, h1 421 (by decide)]
  · by_cases e : q = 263
    · rw [e]; exact h6
    · rw [h4 q e, h.2.2.2.1 q a, h2 q e]
  · rw [h4 260 (by decide), h.2.2.2.2.1 i a, h2 260 (by decide)]
  · rw [h4 419 (by decide), h.2.2.2.2.2 i a, h2 419 (by decide)]
theorem c195 (hV : BV β) (hT : TQ β ρ R r) {d δ b t i j : Nat} {η : VEnv} (ht : t < 6) (hl : bL β t = true) (hro : ρ (bO β t) < r) (hcnt : δ + 1 + cnt ρ (ρ (bO β t)) ≤ 6) (hb : b + 40 * (ρ (bO β t) + 1) ≤ 4800) (hd : 2 * ρ (bO β t) + 5 ≤ d) (hi : i < bm β t) (hj : j < wd β t) (hS : RSt β I D) (hI : RIn β I D η) (h18 : I 260 18 = nI δ) (h26 : I 260 26 = nI b)
    (hq : ∀ I' D', FQT (δ + 1) b I D I' D' → I' 260 26 = nI b → VQ (I' 260 31) (I' 260 32) (D' 260 30) (val β (supV β η t i j) (bO β t)) → Q none w1 (I', D', RR R)) : j_Call d 195 [.ref 260, .int (nI t), .int (nI i), .int (nI j)] w1 (I, D, RR R) 0 0 Q := by
  obtain ⟨v1, v2, v3, v4, v5, v6, v7, v8, v9, v10, v11⟩ := hV.2.1 t ht hl
  obtain ⟨s1, s2, s3, s4, s5, s6, s7⟩ := (hS.2 t ht).2 hl
  have j8 : j < 8 := by
    unfold wd at hj
    split at hj <;> omega
  obtain ⟨ga, xa, -⟩ := hI (b1 β t) v2
  cases hb2 : b2 β t with
  | none =>
    rw [hb2] at s3
    refine u195a ht v2 s2 s3 (Nat.zero_le _) (fun h => absurd s3 h) (fun h => absurd s3 h) (fun _ => ?_)
    refine u195d ht v2 v2 (by omega) j8 (Nat.zero_le _) ?_
    rw [s6 i hi]
    refine c195c (o := bO β t) (η := supV β η t i j) hT ht v2 v2 v1 (by rw [j_u_o _ _ _ (by decide)]; exact s1) hro hcnt hb hd ga ga (hS.cg (fun q _ _ a => by funext k; rw [j_u_o _ _ _ a]) (fun q _ _ a => by funext k; rw [j_u_o _ _ _ a])) (fun c hc => ?_) (by rw [j_u_o _ _ _ (by decide)]; exact h18) (by rw [j_u_o _ _ _ (by decide)]; exact h26) (fun I' D' f1 f2 f3 => ?_)
    · by_cases e : c = b1 β t
      · subst e
        rw [j_u_same, j_u_same]
        refine ⟨Or.inr rfl, v10 i hi, fun _ => ⟨fun h => absurd h (by decide), fun _ => ?_⟩⟩
        unfold supV; rw [fu_s]
      · rw [j_u_k _ _ e, j_u_k _ _ e]
        have : supV β η t i j c = η c := supV_o e (by rw [hb2]; exact fun h => by cases h)
        rw [this]; exact hI c hc
    · refine hq _ _ (fqt_res f1 (fun q a => by funext k; rw [j_u_o _ _ _ a]) (fun q a => by funext k; rw [j_u_o _ _ _ a]) (fun q a => by funext k; rw [j_u_o _ _ _ a, j_u_o _ _ _ a]) (fun q a => by funext k; rw [j_u_o _ _ _ a, j_u_o _ _ _ a]) ?_ ?_) ?_ ?_
      · funext k
        by_cases e : k = b1 β t
        · subst e; rw [j_u_same]
        · rw [j_u_k _ _ e, j_u_k _ _ e, f1.1 262 (by unfold qI; omega), j_u_k _ _ e]
      · funext k
        by_cases e : k = b1 β t
        · subst e; rw [j_u_same]
        · rw [j_u_k _ _ e, j_u_k _ _ e, f1.2.2.2.1 263 (by unfold qD; omega), j_u_k _ _ e]
      · rw [j_u_o _ _ _ (by decide), j_u_o _ _ _ (by decide)]; exact f2
      · refine f3.cg ?_ ?_ ?_
        · rw [j_u_o _ _ _ (by decide), j_u_o _ _ _ (by decide)]
        · rw [j_u_o _ _ _ (by decide), j_u_o _ _ _ (by decide)]
        · rw [j_u_o _ _ _ (by decide), j_u_o _ _ _ (by decide)]
  | some o =>
    rw [hb2] at s3
    obtain ⟨o1, o2, o3⟩ := v4 o hb2
    obtain ⟨go', xo, -⟩ := hI o o1
    have hjn : j < bn β t := by
      unfold wd at hj
      rw [hb2, if_neg (fun h => by cases h)] at hj
      exact hj
    refine u195b ht v2 o1 s2 s3 (Nat.zero_le _) (fun _ => ?_) (fun h => absurd h (nI_ne_m1 (by omega)))
    refine u195c ht v2 o1 (by omega) j8 (Nat.zero_le _) ?_
    refine u195d ht v2 o1 (by omega) j8 (Nat.zero_le _) ?_
    rw [j_u_o _ _ _ (by omega), s6 i hi, show 321 + (2 * t + 1) = 321 + 2 * t + 1 by omega, s7 j hjn]
    refine c195c (o := bO β t) (η := supV β η t i j) hT ht v2 o1 v1 (by rw [j_u_o _ _ _ (by decide), j_u_o _ _ _ (by decide)]; exact s1) hro hcnt hb hd ga go' (hS.cg (fun q _ _ a => by funext k; rw [j_u_o _ _ _ a, j_u_o _ _ _ a]) (fun q _ _ a => by funext k; rw [j_u_o _ _ _ a, j_u_o _ _ _ a])) (fun c hc => ?_) (by rw [j_u_o _ _ _ (by decide), j_u_o _ _ _ (by decide)]; exact h18) (by rw [j_u_o _ _ _ (by decide), j_u_o _ _ _ (by decide)]; exact h26) (fun I' D' f1 f2 f3 => ?_)
    · by_cases e : c = b1 β t
      · subst e
        rw [j_u_same, j_u_same]
        refine ⟨Or.inr rfl, v10 i hi, fun _ => ⟨fun h => absurd h (by decide), fun _ => ?_⟩⟩
        unfold supV; rw [fu_s]
      · by_cases e2 : c = o
        · subst e2
          rw [j_u_k _ _ e, j_u_k _ _ e, j_u_same, j_u_same]
          refine ⟨Or.inr rfl, v11 j hjn, fun _ => ⟨fun h => absurd h (by decide), fun _ => ?_⟩⟩
          unfold supV; rw [fu_n e, hb2]; simp only [fu_s]
        · rw [j_u_k _ _ e, j_u_k _ _ e, j_u_k _ _ e2, j_u_k _ _ e2]
          have : supV β η t i j c = η c := supV_o e (by rw [hb2]; exact fun h => e2 (Option.some.inj h).symm)
          rw [this]; exact hI c hc
    · refine hq _ _ (fqt_res f1 (fun q a => by funext k; rw [j_u_o _ _ _ a, j_u_o _ _ _ a]) (fun q a => by funext k; rw [j_u_o _ _ _ a, j_u_o _ _ _ a]) (fun q a => by funext k; rw [j_u_o _ _ _ a, j_u_o _ _ _ a]) (fun q a => by funext k; rw [j_u_o _ _ _ a, j_u_o _ _ _ a]) ?_ ?_) ?_ ?_
      · funext k
        by_cases e : k = b1 β t
        · subst e; rw [j_u_same]
        · by_cases e2 : k = o
          · subst e2; rw [j_u_k _ _ e, j_u_same]
          · rw [j_u_k _ _ e, j_u_k _ _ e2, f1.1 262 (by unfold qI; omega), j_u_k _ _ e, j_u_k _ _ e2]
      · funext k
        by_cases e : k = b1 β t
        · subst e; rw [j_u_same]
        · by_cases e2 : k = o
          · subst e2; rw [j_u_k _ _ e, j_u_same]
          · rw [j_u_k _ _ e, j_u_k _ _ e2, f1.2.2.2.1 263 (by unfold qD; omega), j_u_k _ _ e, j_u_k _ _ e2]
      · rw [j_u_o _ _ _ (by decide), j_u_o _ _ _ (by decide)]; exact f2
      · refine f3.cg ?_ ?_ ?_
        · rw [j_u_o _ _ _ (by decide), j_u_o _ _ _ (by decide)]
        · rw [j_u_o _ _ _ (by decide), j_u_o _ _ _ (by decide)]
        · rw [j_u_o _ _ _ (by decide), j_u_o _ _ _ (by decide)]
end TC9
