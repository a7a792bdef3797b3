/-! tells: the numbers -/
theorem zz_1 : ∀ j, j < 41 → ¬ (20 : Int32) < nI j - 20 ∧ (nI j - 20 : Int32) + 1 = nI (j + 1) - 20 := by decide +kernel
theorem zz_2 : (20 : Int32) < nI 41 - 20 := by decide
theorem zz_0 : (nI 0 - 20 : Int32) = -20 := by decide
section NU
variable {β : Bd} {I : Nat → Nat → Int32} {D : Nat → Nat → UInt64} {R : Nat → Nat → Option Nat} {Q : j_Po}
def hz (f : Nat → Int32) (x : Nat → UInt64) (β : Bd) (t c j : Nat) : Int32 := oth f x (csV β (fu (env β) c (0, kp (nI (bK β c)) (FP.i2d (nI j - 20)))) t) (cas β t) 0
def cN (f : Nat → Int32) (x : Nat → UInt64) (β : Bd) (t c : Nat) : Nat → Nat
  | 0 => 0
  | j + 1 => if hz f x β t c j = -1 then cN f x β t c j + 1 else cN f x β t c j
def fN (f : Nat → Int32) (x : Nat → UInt64) (β : Bd) (t c : Nat) : Nat → Int32
  | 0 => -1
  | j + 1 => if hz f x β t c j = -1 ∧ cN f x β t c j = 0 then 1000 + (nI j - 20) else fN f x β t c j
theorem cN_le {f : Nat → Int32} {x : Nat → UInt64} {t c : Nat} : ∀ j, cN f x β t c j ≤ j
  | 0 => Nat.le_refl _
  | j + 1 => by
    have := cN_le (f := f) (x := x) (t := t) (c := c) j
    unfold cN; split <;> omega
theorem cN_up {f : Nat → Int32} {x : Nat → UInt64} {t c i : Nat} (h : cN f x β t c i ≠ 0) : ∀ m, cN f x β t c (i + m) ≠ 0 ∧ fN f x β t c (i + m) = fN f x β t c i
  | 0 => ⟨h, rfl⟩
  | m + 1 => by
    obtain ⟨h1, h2⟩ := cN_up h m
    refine ⟨?_, ?_⟩
    · show cN f x β t c (i + m + 1) ≠ 0
      unfold cN
      split
      · exact Nat.succ_ne_zero _
      · exact h1
    · show fN f x β t c (i + m + 1) = _
      have : fN f x β t c (i + m + 1) = fN f x β t c (i + m) := if_neg (fun q => h1 q.2)
      rw [this, h2]
theorem fN_hit {f : Nat → Int32} {x : Nat → UInt64} {t c j : Nat} (hj : j < 41) (h : hz f x β t c j = -1) (h0 : cN f x β t c j = 0) : fN f x β t c 41 = 1000 + (nI j - 20) := by
  have e1 : cN f x β t c (j + 1) ≠ 0 := by
    have : cN f x β t c (j + 1) = cN f x β t c j + 1 := if_pos h
    omega
  have e2 : fN f x β t c (j + 1) = 1000 + (nI j - 20) := if_pos ⟨h, h0⟩
  have := (cN_up e1 (40 - j)).2
  rw [show j + 1 + (40 - j) = 41 by omega, e2] at this
  exact this
theorem fN_no {f : Nat → Int32} {x : Nat → UInt64} {t c : Nat} : ∀ j, cN f x β t c j = 0 → fN f x β t c j = -1
  | 0, _ => rfl
  | j + 1, h => by
    by_cases e : hz f x β t c j = -1
    · have : cN f x β t c (j + 1) = cN f x β t c j + 1 := if_pos e
      omega
    · have e1 : cN f x β t c (j + 1) = cN f x β t c j := if_neg e
      have e2 : fN f x β t c (j + 1) = fN f x β t c j := if_neg (fun q => e q.1)
      rw [e2]; exact fN_no j (by omega)
def nR (f : Nat → Int32) (x : Nat → UInt64) (β : Bd) (t c b : Nat) : Int32 := if b = 0 then nI (cN f x β t c 41) else fN f x β t c 41
theorem fu_fu {η : VEnv} {c : Nat} {a b : Vl} : fu (fu η c a) c b = fu η c b := by
  funext v
  by_cases e : v = c
  · subst e; rw [fu_s, fu_s]
  · rw [fu_n e, fu_n e, fu_n e]
theorem c151 (hR : WFR R) (hV : BV β) (hC : CB β I D R) (hN : NM β I) (hO : OrdB β I) {d t r c b : Nat} (ht : t < 6) (hr : r < 4) (hc : c < 24) (hb : b < 2) (hl : bL β t = true) (hrow : I (248 + 3 * r) 1 = nI (cas β t)) (hd : 50 ≤ d) (hq : ∀ J E, FRc I D J E → Q (some (.int (nR (I (248 + 3 * r + 2)) (D (248 + 3 * r + 1)) β t c b))) w1 (J, E, RR R)) : j_Call d 151 [.ref 0, .int (nI t), .ref (248 + 3 * r), .int (nI c), .int (nI b)] w1 (I, D, RR R) 0 0 Q := by
  obtain ⟨ρ, hρ⟩ := Rk.ex hV
  obtain ⟨k64, -⟩ := cas_64 hV ht hl
  have bz : nI b = 0 ↔ b = 0 := nI_eq (b := 0) (by omega) (by decide)
  refine u151a (AP := fun J E => FRc I D J E ∧ J 107 7 = 0 ∧ LE β J E 0 (env β)) hr (fun Q2 hq2 => c34o hC (by omega) (fun J E a1 a2 a3 => hq2 J E ⟨a1, a2, a3⟩)) (by omega) (fun J E hA => ?_)
  obtain ⟨a1, a2, a3⟩ := hA
  have loop : ∀ (m j h : Nat) (θ : VEnv) (J : Nat → Nat → Int32) (E : Nat → Nat → UInt64), m + j = 41 → h = (if b = 0 then cN (I (248 + 3 * r + 2)) (D (248 + 3 * r + 1)) β t c j else 0) → (¬ b = 0 → cN (I (248 + 3 * r + 2)) (D (248 + 3 * r + 1)) β t c j = 0) → (∀ a, fu θ c a = fu (env β) c a) → FRc I D J E → J 107 7 = 0 → LE β J E 0 θ → j_W 151 d 0 0 0 0 14 [some (.ref 0), some (.int (nI t)), some (.ref (248 + 3 * r)), some (.int (nI c)), some (.int (nI b)), some (.int (nI h)), some (.int (nI j - 20))] [] w1 (J, E, RR R) Q := by
    intro m
    induction m with
    | zero =>
      intro j h θ J E hj hh hfst hθ b1 b2 b3
      have hj41 : j = 41 := by omega
      subst hj41
      have ex : ∀ {P : Prop}, ¬ (20 : Int32) < nI 41 - 20 → P := fun h => absurd zz_2 h
      have hQ := hq J E b1
      refine u151h (η := θ) hr (b1.cb hR hC) (by omega) (fun _ => ?_) (fun h => ex h) (fun h => ex h) (fun h => ex h) (fun h => ex h) (fun h => ex h)
      refine u151z (by omega) (fun g => ?_) (fun g => ?_)
      · have b0 := bz.mp g
        rw [if_pos b0] at hh
        unfold nR at hQ
        rw [if_pos b0, ← hh] at hQ; exact hQ
      · have b0 : ¬ b = 0 := fun q => g (bz.mpr q)
        unfold nR at hQ
        rw [if_neg b0, fN_no 41 (hfst b0)] at hQ; exact hQ
    | succ m ih =>
      intro j h θ J E hj hh hfst hθ b1 b2 b3
      obtain ⟨z1, z2⟩ := zz_1 j (by omega)
      have hcle := cN_le (f := I (248 + 3 * r + 2)) (x := D (248 + 3 * r + 1)) (β := β) (t := t) (c := c) j
      have h64 : h < 64 := by rw [hh]; split <;> omega
      refine u151h (η := θ) hr (b1.cb hR hC) (by omega) (fun h => absurd h z1) (fun _ => hc) (fun _ => sm_i _) (fun _ => Nat.le_refl _) (fun _ => b3) (fun _ J2 E2 d1 d2 => ?_)
      rw [hθ] at d2
      have c1 := b1.tr (FL.rc d1 (by decide))
      have e2 : J2 107 7 = 0 := by rw [d1.1 107 (by decide)]; exact b2
      refine u151c (AP := fun J3 E3 => GF 1 0 (fun _ => True) J2 E2 J3 E3 ∧ J3 107 7 = 0 ∧ TLR J3 E3 (230 + 3 * t) (cas β t) (csV β (fu (env β) c (0, kp (nI (bK β c)) (FP.i2d (nI j - 20)))) t) ∧ (∀ q, q < cas β t → (csV β (fu (env β) c (0, kp (nI (bK β c)) (FP.i2d (nI j - 20)))) t q).1 < 200)) hr (fun Q2 hq2 => (tf_all hR hV hρ 31).2 (d - 1) 0 0 t (fu (env β) c (0, kp (nI (bK β c)) (FP.i2d (nI j - 20)))) J2 E2 Q2 ht hl (by have := hρ.1 (24 + t) (by omega); omega) (by have := cnt_5 (ρ := ρ) ht (Nat.le_refl _); omega) (Nat.zero_le _) (by omega) (c1.cb hR hC) (c1.nm hN) (c1.or hO) e2 d2 (fun J3 E3 g1 g2 g3 g4 => hq2 J3 E3 ⟨g1.mono (Nat.le_refl _) (Nat.le_refl _) (fun _ _ _ => trivial), g2, g3, fun q hq => (g4 q hq).1⟩)) (by omega) (fun J3 E3 hA => ?_)
      obtain ⟨g1, g2, g3, g4⟩ := hA
      have c2 := c1.tr (g1.mono (L := 0) (b := 0) (U := fun _ => True) (by decide) (Nat.le_refl _) (fun _ _ _ => trivial))
      have f1 : ∀ q, 248 ≤ q → q < 260 → J3 q = I q := fun q a b => c2.1 q (by omega) (by omega) (by omega) (by omega)
      have f2 : ∀ q, 248 ≤ q → q < 260 → E3 q = D q := fun q a b => c2.2.2.2.1 q (by omega) (by omega) (by omega)
      have le3 : LE β J3 E3 0 (fu (env β) c (0, kp (nI (bK β c)) (FP.i2d (nI j - 20)))) := g1.le (by decide) (by decide) d2
      refine u151d (v := hz (I (248 + 3 * r + 2)) (D (248 + 3 * r + 1)) β t c j) hr ht h64 (fun Q2 hq2 => by
        refine c149 hr ht k64 g3 g4 (by rw [f1 (248 + 3 * r) (by omega) (by omega)]; exact hrow) (by omega) ?_
        rw [f1 (248 + 3 * r + 2) (by omega) (by omega), f2 (248 + 3 * r + 1) (by omega) (by omega)]; exact hq2) (by omega) (fun g gb => ?_) (fun g gb => ?_) (fun g => ?_)
      · have b0 := bz.mp gb
        rw [z2]
        have ec : cN (I (248 + 3 * r + 2)) (D (248 + 3 * r + 1)) β t c (j + 1) = cN (I (248 + 3 * r + 2)) (D (248 + 3 * r + 1)) β t c j + 1 := if_pos g
        exact ih (j + 1) (h + 1) _ J3 E3 (by omega) (by rw [if_pos b0] at hh ⊢; rw [ec, hh]) (fun q => absurd b0 q) (fun a => fu_fu) c2 g2 le3
      · have b0 : ¬ b = 0 := fun q => gb (bz.mpr q)
        have hQ := hq J3 E3 c2
        unfold nR at hQ
        rw [if_neg b0, fN_hit (by omega) g (hfst b0)] at hQ; exact hQ
      · rw [z2]
        have ec : cN (I (248 + 3 * r + 2)) (D (248 + 3 * r + 1)) β t c (j + 1) = cN (I (248 + 3 * r + 2)) (D (248 + 3 * r + 1)) β t c j := if_neg g
        exact ih (j + 1) h _ J3 E3 (by omega) (by rw [ec]; exact hh) (fun q => by rw [ec]; exact hfst q) (fun a => fu_fu) c2 g2 le3
  refine u151b hr (by omega) ?_
  have := loop 41 0 0 (env β) J E rfl (by split <;> rfl) (fun _ => rfl) (fun _ => rfl) a1 a2 a3
  rw [zz_0] at this
  exact this
theorem c279 (hV : BV β) (hB : RB β I D) {d t r c b : Nat} {f : Nat → Int32} {x : Nat → UInt64} (ht : t < 6) (hr : r < 4) (hc : c < 24) (hb : b < 2) (hl : bL β t = true) (h504 : I 504 r = nI (cas β t)) (hf : ∀ i, i < cas β t → I (511 + r) i = f i) (hx : ∀ i, i < cas β t → f i = 0 → D (506 + r) i = x i ∧ Fi (x i)) (hd : 90 ≤ d) (hq : ∀ J E, FRr I D J E → Q (some (.int (nR f x β t c b))) w1 (J, E, RR R)) : j_Call d 279 [.ref 260, .int (nI t), .int (nI r), .int (nI c), .int (nI b)] w1 (I, D, RR R) 0 0 Q := by
  have hI0 := hB.inp
  have bz : nI b = 0 ↔ b = 0 := nI_eq (b := 0) (by omega) (by decide)
  refine u279e hc (by omega) ?_
  have loop : ∀ (m j : Nat) (J : Nat → Nat → Int32) (E : Nat → Nat → UInt64), m + j = 41 → (∀ q, ¬ qI 0 q → q ≠ 262 → J q = I q) → (∀ i, i ≠ 18 → i ≠ 26 → i ≠ 31 → i ≠ 32 → J 260 i = I 260 i) → (∀ i, i ≠ c → J 262 i = I 262 i) → J 262 c = 1 → (∀ q, ¬ qD 0 q → q ≠ 263 → E q = D q) → (∀ i, i ≠ c → E 263 i = D 263 i) → j_W 279 d 0 0 0 0 33 [some (.ref 260), some (.int (nI t)), some (.int (nI r)), some (.int (nI c)), some (.int (nI b)), some (.double (D 263 c)), none, some (.int (I 262 c)), some (.int (nI (cN f x β t c j))), some (.int (fN f x β t c j)), some (.int (nI j - 20))] [] w1 (J, E, RR R) Q := by
    intro m
    induction m with
    | zero =>
      intro j J E hj a1 a2 a3 a4 a5 a6
      have hj41 : j = 41 := by omega
      subst hj41
      refine u279h hc (by omega) (fun _ => ?_) (fun h => absurd zz_2 h)
      have hQ := hq (j_u J 262 c (I 262 c)) (j_u E 263 c (D 263 c)) ⟨fun q q1 => ?_, fun i i1 i2 i3 i4 => by rw [j_u_o _ _ _ (by decide)]; exact a2 i i1 i2 i3 i4, fun q q1 => ?_⟩
      · unfold nR at hQ
        refine u279z hc (by omega) (hI0 c hc).1 (fun g => ?_) (fun g => ?_)
        · rw [if_pos (bz.mp g)] at hQ; exact hQ
        · rw [if_neg (fun q => g (bz.mpr q))] at hQ; exact hQ
      · funext i
        by_cases e : q = 262
        · subst e
          by_cases e2 : i = c
          · subst e2; rw [j_u_same]
          · rw [j_u_k _ _ e2]; exact a3 i e2
        · rw [j_u_o _ _ _ e, a1 q q1 e]
      · funext i
        by_cases e : q = 263
        · subst e
          by_cases e2 : i = c
          · subst e2; rw [j_u_same]
          · rw [j_u_k _ _ e2]; exact a6 i e2
        · rw [j_u_o _ _ _ e, a5 q q1 e]
    | succ m ih =>
      intro j J E hj a1 a2 a3 a4 a5 a6
      obtain ⟨z1, z2⟩ := zz_1 j (by omega)
      have hcle := cN_le (f := f) (x := x) (β := β) (t := t) (c := c) j
      refine u279h hc (by omega) (fun h => absurd h z1) (fun _ => ?_)
      have hS : RSt β J (j_u E 263 c (FP.i2d (nI j - 20))) := hB.st.cg (fun q q1 q2 q3 => a1 q (by unfold qI; omega) q3) (fun q q1 q2 q3 => by rw [← a5 q (by unfold qD; omega) q3]; funext i; rw [j_u_o _ _ _ q3])
      have hIn : RIn β J (j_u E 263 c (FP.i2d (nI j - 20))) (fu (env β) c (0, kp (nI (bK β c)) (FP.i2d (nI j - 20)))) := fun v hv => by
        by_cases e : v = c
        · subst e
          rw [j_u_same, a4, fu_s]
          exact ⟨Or.inr rfl, sm_i _, fun _ => ⟨fun h => absurd h (by decide), fun _ => rfl⟩⟩
        · rw [j_u_k _ _ e, a3 v e, a6 v e, fu_n e]; exact hI0 v hv
      have o504 : J 504 = I 504 := a1 504 (by unfold qI; omega) (by decide)
      have o511 : J (511 + r) = I (511 + r) := a1 _ (by unfold qI; omega) (by omega)
      have o506 : j_u E 263 c (FP.i2d (nI j - 20)) (506 + r) = D (506 + r) := by rw [← a5 (506 + r) (by unfold qD; omega) (by omega)]; funext i; rw [j_u_o _ _ _ (by omega)]
      have nxt : ∀ J2 E2 (h : Nat) (w : Int32), FRr J (j_u E 263 c (FP.i2d (nI j - 20))) J2 E2 → h = cN f x β t c (j + 1) → w = fN f x β t c (j + 1) → j_W 279 d 0 0 0 0 33 [some (.ref 260), some (.int (nI t)), some (.int (nI r)), some (.int (nI c)), some (.int (nI b)), some (.double (D 263 c)), none, some (.int (I 262 c)), some (.int (nI h)), some (.int w), some (.int ((nI j - 20) + 1))] [] w1 (J2, E2, RR R) Q := fun J2 E2 h w g1 e1 e2 => by
        rw [e1, e2, z2]
        refine ih (j + 1) J2 E2 (by omega) (fun q q1 q2 => (g1.1 q q1).trans (a1 q q1 q2)) (fun i i1 i2 i3 i4 => (g1.2.1 i i1 i2 i3 i4).trans (a2 i i1 i2 i3 i4)) (fun i hi => by rw [g1.1 262 (by unfold qI; omega)]; exact a3 i hi) (by rw [g1.1 262 (by unfold qI; omega)]; exact a4) (fun q q1 q2 => ?_) (fun i hi => ?_)
        · rw [g1.2.2 q q1, ← a5 q q1 q2]; funext i; rw [j_u_o _ _ _ q2]
        · rw [g1.2.2 263 (by unfold qD; omega), j_u_k _ _ hi]; exact a6 i hi
      refine u279c (v := hz f x β t c j) (AP := fun J2 E2 => FRr J (j_u E 263 c (FP.i2d (nI j - 20))) J2 E2) (by omega) (fun Q2 hq2 => c277 (η := fu (env β) c (0, kp (nI (bK β c)) (FP.i2d (nI j - 20)))) hV hS hIn ht hr hl (by rw [o504]; exact h504) (fun i hi => by rw [o511]; exact hf i hi) (fun i hi h0 => by rw [o506]; exact hx i hi h0) (by omega) (fun J2 E2 g1 => hq2 J2 E2 g1)) (by omega) (fun J2 E2 g1 g g2 => ?_) (fun J2 E2 g1 g g2 => ?_) (fun J2 E2 g1 g => ?_)
      · have n0 : ¬ cN f x β t c j = 0 := fun q => g2 (by rw [q]; rfl)
        exact nxt J2 E2 _ _ g1 (if_pos g).symm (if_neg (fun q => n0 q.2)).symm
      · have n0 : cN f x β t c j = 0 := (nI_eq (b := 0) (by omega) (by decide)).mp g2
        exact nxt J2 E2 _ _ g1 (if_pos g).symm (if_pos ⟨g, n0⟩).symm
      · exact nxt J2 E2 _ _ g1 (if_neg g).symm (if_neg (fun q => g q.1)).symm
  have := loop 41 0 (j_u I 262 c 1) D rfl (fun q q1 q2 => by funext i; rw [j_u_o _ _ _ q2]) (fun i _ _ _ _ => by rw [j_u_o _ _ _ (by decide)]) (fun i hi => by rw [j_u_k _ _ hi]) (by rw [j_u_same]) (fun _ _ _ => rfl) (fun _ _ => rfl)
  rw [zz_0] at this
  exact this
end NU
